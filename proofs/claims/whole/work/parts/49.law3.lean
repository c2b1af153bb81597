
set_option maxHeartbeats 4000000 in
set_option maxRecDepth 100000 in
theorem law_feed {p : Program} {l : Launch} {e : Env} {s : State} {m : MethodId} {below : List Frame} {meth : Method} {cd9 : Code} {Q : State → Prop} {b L : Nat} {xs : Nat → Int32} {G : ah_G} {x y o q cells slots : Nat} (C : lwC p l s m cd9 b L xs G) (hL : L ≤ 2048) (hq : 4 * q + 4 ≤ L) (hcells : cells + 20 ≤ room_1.cells) (hslots : slots + 1200 ≤ room_1.slots) (K : lwK p l e s m below meth cd9 Q b G x y o q cells slots) {k0 : Nat} {fo : Nat → Int64} {h : ah_H} {H : Heap} {locs : List Loc} {ls : Array Slot} (htw : tw G h x y q k0) (O : h o = some (oC G fo)) (hR : ah_R G h H) (hS : va_S (ah_A G) s.heap H locs) (hl : lv_has ls 7 [(4, .int (nI (4 * q))), (0, .ref b), (1, .ref x), (2, .ref y), (3, .ref o)]) : W p l e room_1 s m #[Value.ref b] below meth cd9 H locs cells slots Q (F0 m 545 ls []) := by
  obtain ⟨hx, hb, hml, hown, hts, hXs, hbl, hbA, hE, hX, hN, hlt⟩ := C
  obtain ⟨n, pm, zh, rf, c, pt, lc, gv, un, f, z, g, gh, D, lat, A, ln, bb, hh, la, mp, sd, rc, pr, th, sm, pc, pu, pa, ua, T, M, B⟩ := htw
  obtain ⟨⟨vs, fx⟩, hn, hf, hpm, hz, hzh, hgh, hrf, hc, hDB⟩ := T.facts
  have hB := B
  obtain ⟨bn, bp, b3, b4, b5, b6, b7, b8, b9⟩ := hB
  have hln : ∀ j, j < pm → ln j ≤ 142 := fun j hj => by rw [(b3 j hj).1]; exact (hz j hj).1
  have hbb : ∀ j, j < pm → ∀ k, k < ln j → bb (142 * j + k) < 256 := fun j hj k hk => by rw [(b3 j hj).2 k (by rw [← (b3 j hj).1]; exact hk)]; exact (hz j hj).2 k
  refine lv_aload_n hx hb dL_law_545 rfl (lv_at hl 2 rfl) ?_
  refine lv_aload_n hx hb dL_law_546 rfl (lv_at hl 1 rfl) ?_
  refine lv_iload hx hb dL_law_547 (lv_at hl 0 rfl) ?_
  refine lv_iconst (v := nI 1) hx hb dL_law_549 (by decide) ?_
  refine lv_iadd hx hb dL_law_550 ?_
  refine ah_toi (v := nI ((4 * q) + 1)) (nI_add _ _) ?_
  refine va_sld (i := nI ((4 * q) + 1)) hx hb hXs hbl hbA hS (vp_in_nI (by omega) (by omega)) dL_law_551 ?_
  refine ah_toi (v := xs ((4 * q) + 1)) (by rw [nI_clamp (by omega)]) ?_
  refine lv_i2l (v := (xs ((4 * q) + 1)).toInt64) hx hb dL_law_552 rfl ?_
  refine lv_bipush (v := nI 32) hx hb dL_law_553 (by decide) ?_
  refine lv_lshl (v := ((xs ((4 * q) + 1)).toInt64) <<< ((nI 32).toInt64 &&& 63)) hx hb dL_law_555 rfl ?_
  refine lv_aload_n hx hb dL_law_556 rfl (lv_at hl 1 rfl) ?_
  refine lv_iload hx hb dL_law_557 (lv_at hl 0 rfl) ?_
  refine lv_iconst (v := nI 2) hx hb dL_law_559 (by decide) ?_
  refine lv_iadd hx hb dL_law_560 ?_
  refine ah_toi (v := nI ((4 * q) + 2)) (nI_add _ _) ?_
  refine va_sld (i := nI ((4 * q) + 2)) hx hb hXs hbl hbA hS (vp_in_nI (by omega) (by omega)) dL_law_561 ?_
  refine ah_toi (v := xs ((4 * q) + 2)) (by rw [nI_clamp (by omega)]) ?_
  refine lv_i2l (v := (xs ((4 * q) + 2)).toInt64) hx hb dL_law_562 rfl ?_
  refine lv_ldc2 (own := RL) (v := 4294967295) hx hb hown (hts (.constantLong RL 91 (4294967295)) wL91) dL_law_563 ?_
  refine lv_land hx hb dL_law_566 ?_
  refine lv_lor hx hb dL_law_567 ?_
  refine lv_aload_n hx hb dL_law_568 rfl (lv_at hl 1 rfl) ?_
  refine lv_iload hx hb dL_law_569 (lv_at hl 0 rfl) ?_
  refine lv_iconst (v := nI 3) hx hb dL_law_571 (by decide) ?_
  refine lv_iadd hx hb dL_law_572 ?_
  refine ah_toi (v := nI ((4 * q) + 3)) (nI_add _ _) ?_
  refine va_sld (i := nI ((4 * q) + 3)) hx hb hXs hbl hbA hS (vp_in_nI (by omega) (by omega)) dL_law_573 ?_
  refine ah_toi (v := xs ((4 * q) + 3)) (by rw [nI_clamp (by omega)]) ?_
  refine lv_aload_n hx hb dL_law_574 rfl (lv_at hl 4 rfl) ?_
  refine ah_calli (vx_runSW (As := [.ref x, .long ((((xs ((4 * q) + 1)).toInt64) <<< ((nI 32).toInt64 &&& 63)) ||| (((xs ((4 * q) + 2)).toInt64) &&& (4294967295 : Int64))), .int (xs ((4 * q) + 3)), .ref o]) (rest := []) ⟨hx, hb, hml, hown, hts⟩ (c_L_feed l G h x o (((xs ((4 * q) + 1)).toInt64 <<< ((nI 32).toInt64 &&& 63)) ||| ((xs ((4 * q) + 2)).toInt64 &&& (4294967295 : Int64))) (xs ((4 * q) + 3)) fx O (c_feed l hlt G h x n pm zh rf c pt f z g gh D lat T (((xs ((4 * q) + 1)).toInt64 <<< ((nI 32).toInt64 &&& 63)) ||| ((xs ((4 * q) + 2)).toInt64 &&& (4294967295 : Int64))) (xs ((4 * q) + 3))) (fun w9 h9 z9 => hp_o ((pa_feed (G := G) (h := h) (x := x) (n := n) (pm := pm) (zh := zh) (rf := rf) (c := c) (pt := pt) (f := f) (z := z) (g := g) (gh := gh) (D := D) (lat := lat)) w9 h9 z9) O) (fun E h9 z9 => z9.1.elim (fun a => Or.inl a.1) (fun a => Or.inr a.1))) (vx_cwSW 4 hts gL_law_L_feed rfl rfl rfl (by decide +kernel) ⟨Nat.le_of_ble_eq_true rfl, Nat.le_of_ble_eq_true rfl⟩) (ah_preH hE hX hN hR hS) rfl rfl hl.1 rfl (lv_room (Nat.le_of_ble_eq_true rfl)) dL_law_575 ⟨show cells + 1 ≤ room_1.cells by omega, show slots + 6 ≤ room_1.slots by omega⟩) hS (fun r1 h1 H locs p1 hR hS => ?_)
  have a1 := hp_ag (pa_feed (G := G) (h := h) (x := x) (n := n) (pm := pm) (zh := zh) (rf := rf) (c := c) (pt := pt) (f := f) (z := z) (g := g) (gh := gh) (D := D) (lat := lat)) (fun E h9 z9 => z9.2) O p1
  obtain ⟨my, m1, m2, m4, m7, m8, m10, m12, m14, m15, m16, m17, m18, m19, m21, m22, m24, m26⟩ := md_after M a1
  refine lv_istore (lv' := [(5, .int r1), (4, .int (nI (4 * q))), (0, .ref b), (1, .ref x), (2, .ref y), (3, .ref o)]) hx hb dL_law_578 hl (by decide) rfl (fun ls hl => ?_)
  refine lv_aload_n hx hb dL_law_580 rfl (lv_at hl 4 rfl) ?_
  refine lv_aload_n hx hb dL_law_581 rfl (lv_at hl 2 rfl) ?_
  refine lv_iload hx hb dL_law_582 (lv_at hl 1 rfl) ?_
  refine lv_iconst (v := nI 1) hx hb dL_law_584 (by decide) ?_
  refine lv_iadd hx hb dL_law_585 ?_
  refine ah_toi (v := nI ((4 * q) + 1)) (nI_add _ _) ?_
  refine va_sld (i := nI ((4 * q) + 1)) hx hb hXs hbl hbA hS (vp_in_nI (by omega) (by omega)) dL_law_586 ?_
  refine ah_toi (v := xs ((4 * q) + 1)) (by rw [nI_clamp (by omega)]) ?_
  refine lv_i2l (v := (xs ((4 * q) + 1)).toInt64) hx hb dL_law_587 rfl ?_
  refine lv_bipush (v := nI 32) hx hb dL_law_588 (by decide) ?_
  refine lv_lshl (v := ((xs ((4 * q) + 1)).toInt64) <<< ((nI 32).toInt64 &&& 63)) hx hb dL_law_590 rfl ?_
  refine lv_aload_n hx hb dL_law_591 rfl (lv_at hl 2 rfl) ?_
  refine lv_iload hx hb dL_law_592 (lv_at hl 1 rfl) ?_
  refine lv_iconst (v := nI 2) hx hb dL_law_594 (by decide) ?_
  refine lv_iadd hx hb dL_law_595 ?_
  refine ah_toi (v := nI ((4 * q) + 2)) (nI_add _ _) ?_
  refine va_sld (i := nI ((4 * q) + 2)) hx hb hXs hbl hbA hS (vp_in_nI (by omega) (by omega)) dL_law_596 ?_
  refine ah_toi (v := xs ((4 * q) + 2)) (by rw [nI_clamp (by omega)]) ?_
  refine lv_i2l (v := (xs ((4 * q) + 2)).toInt64) hx hb dL_law_597 rfl ?_
  refine lv_ldc2 (own := RL) (v := 4294967295) hx hb hown (hts (.constantLong RL 91 (4294967295)) wL91) dL_law_598 ?_
  refine lv_land hx hb dL_law_601 ?_
  refine lv_lor hx hb dL_law_602 ?_
  refine lv_aload_n hx hb dL_law_603 rfl (lv_at hl 2 rfl) ?_
  refine lv_iload hx hb dL_law_604 (lv_at hl 1 rfl) ?_
  refine lv_iconst (v := nI 3) hx hb dL_law_606 (by decide) ?_
  refine lv_iadd hx hb dL_law_607 ?_
  refine ah_toi (v := nI ((4 * q) + 3)) (nI_add _ _) ?_
  refine va_sld (i := nI ((4 * q) + 3)) hx hb hXs hbl hbA hS (vp_in_nI (by omega) (by omega)) dL_law_608 ?_
  refine ah_toi (v := xs ((4 * q) + 3)) (by rw [nI_clamp (by omega)]) ?_
  refine ah_calli (va_runV (As := [.long ((((xs ((4 * q) + 1)).toInt64) <<< ((nI 32).toInt64 &&& 63)) ||| (((xs ((4 * q) + 2)).toInt64) &&& (4294967295 : Int64))), .int (xs ((4 * q) + 3))]) (rest := []) ⟨hx, hb, hml, hown, hts⟩ (c_m_feed l G h1 y A k0 n rf pm zh lc c pt gv un my hh m10 hzh (((xs ((4 * q) + 1)).toInt64 <<< ((nI 32).toInt64 &&& 63)) ||| ((xs ((4 * q) + 2)).toInt64 &&& (4294967295 : Int64))) (xs ((4 * q) + 3))) (cwV 2 hts gL_law_X9_feed rfl rfl rfl (by decide +kernel) ⟨Nat.le_of_ble_eq_true rfl, Nat.le_of_ble_eq_true rfl⟩) (ah_preV hE hR hS my rfl) rfl rfl hl.1 rfl (lv_room (Nat.le_of_ble_eq_true rfl)) dL_law_609 ⟨show (cells + 1) + 0 ≤ room_1.cells by omega, show (slots + 6) + 0 ≤ room_1.slots by omega⟩) hS (fun r_3 h_1 H locs p_2 hR hS => ?_)
  obtain ⟨kk, fo9, ek, hk2, tw9, fO9, eq9⟩ := st_feed T M B O p1 p_2
  subst ek
  obtain ⟨A9, n9, rf9, pm9, zh9, lc9, c9, pt9, gv9, un9, fy9⟩ := tw9.fy
  refine lv_istore (lv' := [(6, .int r_3), (5, .int (nI kk)), (4, .int (nI (4 * q))), (0, .ref b), (1, .ref x), (2, .ref y), (3, .ref o)]) hx hb dL_law_612 hl (by decide) rfl (fun ls hl => ?_)
  refine lv_aload_n hx hb dL_law_614 rfl (lv_at hl 5 rfl) ?_
  refine ah_calli (va_runV (As := []) (rest := []) ⟨hx, hb, hml, hown, hts⟩ (c_m_thrown l G h_1 y A9 kk n9 rf9 pm9 zh9 lc9 c9 pt9 gv9 un9 fy9) (cwV 0 hts gL_law_X9_thrown rfl rfl rfl (by decide +kernel) ⟨Nat.le_of_ble_eq_true rfl, Nat.le_of_ble_eq_true rfl⟩) (ah_preV hE hR hS fy9 rfl) rfl rfl hl.1 rfl (lv_room (Nat.le_of_ble_eq_true rfl)) dL_law_615 ⟨show (cells + 1) + 0 ≤ room_1.cells by omega, show (slots + 6) + 0 ≤ room_1.slots by omega⟩) hS (fun r_6 h_4 H locs p_5 hR hS => ?_)
  obtain ⟨e_7, e_8⟩ := p_5
  rw [e_8] at hR
  refine ah_toi e_7 ?_
  refine lv_iload hx hb dL_law_618 (lv_at hl 1 rfl) ?_
  refine lv_icmp_eq (tgt := 625) hx hb dL_law_620 (by decide) (fun c_9 => ?_) (fun c_9 => ?_)
  · skip
    have c_9 : kk = kk := (nI_eq (by omega) (by omega)).mp c_9
    refine lv_iload hx hb dL_law_625 (lv_at hl 1 rfl) ?_
    refine lv_if_ne (tgt := 642) hx hb dL_law_627 (by decide) (fun c_10 => ?_) (fun c_10 => ?_)
    · skip
      have c_10 : ¬ (kk = 0) := fun z9 => c_10 ((zi_eq (by omega)).mpr z9)
      refine lv_goto (tgt := 850) hx hb dL_law_642 (by decide) ?_
      refine W.widen (k := cells + 20) (n := slots + 1200) (by omega) (by omega) ?_
      exact K _ _ _ _ _ ls tw9 fO9 hR hS (lv_sub hl [2, 3, 4, 5, 6] rfl)
    · skip
      have c_10 : kk = 0 := (zi_eq (by omega)).mp c_10
      refine lv_aload_n hx hb dL_law_630 rfl (lv_at hl 6 rfl) ?_
      refine lv_iconst (v := nI 0) hx hb dL_law_631 (by decide) ?_
      refine ah_lald (i := 0) (t := 12) (n := 1) hx hb hE hR fO9 (by decide) (by decide) dL_law_632 ?_
      refine lv_iload hx hb dL_law_633 (lv_at hl 0 rfl) ?_
      refine lv_i2l (v := (r_3).toInt64) hx hb dL_law_635 rfl ?_
      refine W.lcmp hx hb dL_law_636 ?_
      refine ah_toi (v := nI 0) (by rw [eq9 c_10]; exact lg_0 _) ?_
      refine lv_if_eq (tgt := 642) hx hb dL_law_637 (by decide) (fun c_11 => ?_) (fun c_11 => ?_)
      · skip
        refine lv_goto (tgt := 850) hx hb dL_law_642 (by decide) ?_
        refine W.widen (k := cells + 20) (n := slots + 1200) (by omega) (by omega) ?_
        exact K _ _ _ _ _ ls tw9 fO9 hR hS (lv_sub hl [2, 3, 4, 5, 6] rfl)
      · skip
        exact absurd (by decide) c_11
  · skip
    have c_9 : ¬ (kk = kk) := fun z9 => c_9 ((nI_eq (by omega) (by omega)).mpr z9)
    exact absurd rfl c_9

set_option maxHeartbeats 4000000 in
set_option maxRecDepth 100000 in
theorem law_read {p : Program} {l : Launch} {e : Env} {s : State} {m : MethodId} {below : List Frame} {meth : Method} {cd9 : Code} {Q : State → Prop} {b L : Nat} {xs : Nat → Int32} {G : ah_G} {x y o q cells slots : Nat} (C : lwC p l s m cd9 b L xs G) (hL : L ≤ 2048) (hq : 4 * q + 4 ≤ L) (hcells : cells + 20 ≤ room_1.cells) (hslots : slots + 1200 ≤ room_1.slots) (K : lwK p l e s m below meth cd9 Q b G x y o q cells slots) {k0 : Nat} {fo : Nat → Int64} {h : ah_H} {H : Heap} {locs : List Loc} {ls : Array Slot} (htw : tw G h x y q k0) (O : h o = some (oC G fo)) (hR : ah_R G h H) (hS : va_S (ah_A G) s.heap H locs) (hl : lv_has ls 7 [(4, .int (nI (4 * q))), (0, .ref b), (1, .ref x), (2, .ref y), (3, .ref o)]) : W p l e room_1 s m #[Value.ref b] below meth cd9 H locs cells slots Q (F0 m 645 ls []) := by
  obtain ⟨hx, hb, hml, hown, hts, hXs, hbl, hbA, hE, hX, hN, hlt⟩ := C
  obtain ⟨n, pm, zh, rf, c, pt, lc, gv, un, f, z, g, gh, D, lat, A, ln, bb, hh, la, mp, sd, rc, pr, th, sm, pc, pu, pa, ua, T, M, B⟩ := htw
  obtain ⟨⟨vs, fx⟩, hn, hf, hpm, hz, hzh, hgh, hrf, hc, hDB⟩ := T.facts
  have hB := B
  obtain ⟨bn, bp, b3, b4, b5, b6, b7, b8, b9⟩ := hB
  have hln : ∀ j, j < pm → ln j ≤ 142 := fun j hj => by rw [(b3 j hj).1]; exact (hz j hj).1
  have hbb : ∀ j, j < pm → ∀ k, k < ln j → bb (142 * j + k) < 256 := fun j hj k hk => by rw [(b3 j hj).2 k (by rw [← (b3 j hj).1]; exact hk)]; exact (hz j hj).2 k
  refine lv_aload_n hx hb dL_law_645 rfl (lv_at hl 2 rfl) ?_
  refine lv_aload_n hx hb dL_law_646 rfl (lv_at hl 1 rfl) ?_
  refine lv_iload hx hb dL_law_647 (lv_at hl 0 rfl) ?_
  refine lv_iconst (v := nI 1) hx hb dL_law_649 (by decide) ?_
  refine lv_iadd hx hb dL_law_650 ?_
  refine ah_toi (v := nI ((4 * q) + 1)) (nI_add _ _) ?_
  refine va_sld (i := nI ((4 * q) + 1)) hx hb hXs hbl hbA hS (vp_in_nI (by omega) (by omega)) dL_law_651 ?_
  refine ah_toi (v := xs ((4 * q) + 1)) (by rw [nI_clamp (by omega)]) ?_
  refine lv_aload_n hx hb dL_law_652 rfl (lv_at hl 4 rfl) ?_
  refine ah_calli (vx_runSW (As := [.ref x, .int (xs ((4 * q) + 1)), .ref o]) (rest := []) ⟨hx, hb, hml, hown, hts⟩ (c_L_read l G h x o (xs ((4 * q) + 1)) fx O (c_read l hlt G h x n pm zh rf c pt f z g gh D lat T (by omega) (xs ((4 * q) + 1))) (fun w9 h9 z9 => hp_o ((pa_read (G := G) (h := h) (x := x) (n := n) (pm := pm) (zh := zh) (rf := rf) (c := c) (pt := pt) (f := f) (z := z) (g := g) (gh := gh) (D := D) (lat := lat)) w9 h9 z9) O) (fun E h9 z9 => z9.1)) (vx_cwSW 3 hts gL_law_L_read rfl rfl rfl (by decide +kernel) ⟨Nat.le_of_ble_eq_true rfl, Nat.le_of_ble_eq_true rfl⟩) (ah_preH hE hX hN hR hS) rfl rfl hl.1 rfl (lv_room (Nat.le_of_ble_eq_true rfl)) dL_law_653 ⟨show cells + 4 ≤ room_1.cells by omega, show slots + 422 ≤ room_1.slots by omega⟩) hS (fun r1 h1 H locs p1 hR hS => ?_)
  have a1 := hp_ag (pa_read (G := G) (h := h) (x := x) (n := n) (pm := pm) (zh := zh) (rf := rf) (c := c) (pt := pt) (f := f) (z := z) (g := g) (gh := gh) (D := D) (lat := lat)) (fun E h9 z9 => z9.2.2) O p1
  obtain ⟨my, m1, m2, m4, m7, m8, m10, m12, m14, m15, m16, m17, m18, m19, m21, m22, m24, m26⟩ := md_after M a1
  refine lv_istore (lv' := [(5, .int r1), (4, .int (nI (4 * q))), (0, .ref b), (1, .ref x), (2, .ref y), (3, .ref o)]) hx hb dL_law_656 hl (by decide) rfl (fun ls hl => ?_)
  refine lv_aload_n hx hb dL_law_658 rfl (lv_at hl 4 rfl) ?_
  refine lv_aload_n hx hb dL_law_659 rfl (lv_at hl 2 rfl) ?_
  refine lv_iload hx hb dL_law_660 (lv_at hl 1 rfl) ?_
  refine lv_iconst (v := nI 1) hx hb dL_law_662 (by decide) ?_
  refine lv_iadd hx hb dL_law_663 ?_
  refine ah_toi (v := nI ((4 * q) + 1)) (nI_add _ _) ?_
  refine va_sld (i := nI ((4 * q) + 1)) hx hb hXs hbl hbA hS (vp_in_nI (by omega) (by omega)) dL_law_664 ?_
  refine ah_toi (v := xs ((4 * q) + 1)) (by rw [nI_clamp (by omega)]) ?_
  refine ah_calli (va_runV (As := [.int (xs ((4 * q) + 1))]) (rest := []) ⟨hx, hb, hml, hown, hts⟩ (c_m_read l G h1 y A k0 n rf pm zh lc c pt gv un my m1 m2 la m12 mp m14 sd m15 rc m16 pr m17 th m18 sm m19 pc m21 pu m22 pa m24 ua m26 hh m10 b6 hc D b7 hDB b8 (by omega) hzh b5 (xs ((4 * q) + 1))) (cwV 1 hts gL_law_X9_read rfl rfl rfl (by decide +kernel) ⟨Nat.le_of_ble_eq_true rfl, Nat.le_of_ble_eq_true rfl⟩) (ah_preV hE hR hS my rfl) rfl rfl hl.1 rfl (lv_room (Nat.le_of_ble_eq_true rfl)) dL_law_665 ⟨show (cells + 4) + 0 ≤ room_1.cells by omega, show (slots + 422) + 0 ≤ room_1.slots by omega⟩) hS (fun r_3 h_1 H locs p_2 hR hS => ?_)
  obtain ⟨kk, fo9, ek, hk2, tw9, fO9, eq9⟩ := st_read T M B O p1 p_2
  subst ek
  obtain ⟨A9, n9, rf9, pm9, zh9, lc9, c9, pt9, gv9, un9, fy9⟩ := tw9.fy
  refine lv_istore (lv' := [(6, .int r_3), (5, .int (nI kk)), (4, .int (nI (4 * q))), (0, .ref b), (1, .ref x), (2, .ref y), (3, .ref o)]) hx hb dL_law_668 hl (by decide) rfl (fun ls hl => ?_)
  refine lv_aload_n hx hb dL_law_670 rfl (lv_at hl 5 rfl) ?_
  refine ah_calli (va_runV (As := []) (rest := []) ⟨hx, hb, hml, hown, hts⟩ (c_m_thrown l G h_1 y A9 kk n9 rf9 pm9 zh9 lc9 c9 pt9 gv9 un9 fy9) (cwV 0 hts gL_law_X9_thrown rfl rfl rfl (by decide +kernel) ⟨Nat.le_of_ble_eq_true rfl, Nat.le_of_ble_eq_true rfl⟩) (ah_preV hE hR hS fy9 rfl) rfl rfl hl.1 rfl (lv_room (Nat.le_of_ble_eq_true rfl)) dL_law_671 ⟨show (cells + 4) + 0 ≤ room_1.cells by omega, show (slots + 422) + 0 ≤ room_1.slots by omega⟩) hS (fun r_6 h_4 H locs p_5 hR hS => ?_)
  obtain ⟨e_7, e_8⟩ := p_5
  rw [e_8] at hR
  refine ah_toi e_7 ?_
  refine lv_iload hx hb dL_law_674 (lv_at hl 1 rfl) ?_
  refine lv_icmp_eq (tgt := 681) hx hb dL_law_676 (by decide) (fun c_9 => ?_) (fun c_9 => ?_)
  · skip
    have c_9 : kk = kk := (nI_eq (by omega) (by omega)).mp c_9
    refine lv_iload hx hb dL_law_681 (lv_at hl 1 rfl) ?_
    refine lv_if_ne (tgt := 698) hx hb dL_law_683 (by decide) (fun c_10 => ?_) (fun c_10 => ?_)
    · skip
      have c_10 : ¬ (kk = 0) := fun z9 => c_10 ((zi_eq (by omega)).mpr z9)
      refine lv_goto (tgt := 850) hx hb dL_law_698 (by decide) ?_
      refine W.widen (k := cells + 20) (n := slots + 1200) (by omega) (by omega) ?_
      exact K _ _ _ _ _ ls tw9 fO9 hR hS (lv_sub hl [2, 3, 4, 5, 6] rfl)
    · skip
      have c_10 : kk = 0 := (zi_eq (by omega)).mp c_10
      refine lv_aload_n hx hb dL_law_686 rfl (lv_at hl 6 rfl) ?_
      refine lv_iconst (v := nI 0) hx hb dL_law_687 (by decide) ?_
      refine ah_lald (i := 0) (t := 12) (n := 1) hx hb hE hR fO9 (by decide) (by decide) dL_law_688 ?_
      refine lv_iload hx hb dL_law_689 (lv_at hl 0 rfl) ?_
      refine lv_i2l (v := (r_3).toInt64) hx hb dL_law_691 rfl ?_
      refine W.lcmp hx hb dL_law_692 ?_
      refine ah_toi (v := nI 0) (by rw [eq9 c_10]; exact lg_0 _) ?_
      refine lv_if_eq (tgt := 698) hx hb dL_law_693 (by decide) (fun c_11 => ?_) (fun c_11 => ?_)
      · skip
        refine lv_goto (tgt := 850) hx hb dL_law_698 (by decide) ?_
        refine W.widen (k := cells + 20) (n := slots + 1200) (by omega) (by omega) ?_
        exact K _ _ _ _ _ ls tw9 fO9 hR hS (lv_sub hl [2, 3, 4, 5, 6] rfl)
      · skip
        exact absurd (by decide) c_11
  · skip
    have c_9 : ¬ (kk = kk) := fun z9 => c_9 ((nI_eq (by omega) (by omega)).mpr z9)
    exact absurd rfl c_9

set_option maxHeartbeats 4000000 in
set_option maxRecDepth 100000 in
theorem law_heap {p : Program} {l : Launch} {e : Env} {s : State} {m : MethodId} {below : List Frame} {meth : Method} {cd9 : Code} {Q : State → Prop} {b L : Nat} {xs : Nat → Int32} {G : ah_G} {x y o q cells slots : Nat} (C : lwC p l s m cd9 b L xs G) (hL : L ≤ 2048) (hq : 4 * q + 4 ≤ L) (hcells : cells + 20 ≤ room_1.cells) (hslots : slots + 1200 ≤ room_1.slots) (K : lwK p l e s m below meth cd9 Q b G x y o q cells slots) {k0 : Nat} {fo : Nat → Int64} {h : ah_H} {H : Heap} {locs : List Loc} {ls : Array Slot} (htw : tw G h x y q k0) (O : h o = some (oC G fo)) (hR : ah_R G h H) (hS : va_S (ah_A G) s.heap H locs) (hl : lv_has ls 7 [(4, .int (nI (4 * q))), (0, .ref b), (1, .ref x), (2, .ref y), (3, .ref o)]) : W p l e room_1 s m #[Value.ref b] below meth cd9 H locs cells slots Q (F0 m 726 ls []) := by
  obtain ⟨hx, hb, hml, hown, hts, hXs, hbl, hbA, hE, hX, hN, hlt⟩ := C
  obtain ⟨n, pm, zh, rf, c, pt, lc, gv, un, f, z, g, gh, D, lat, A, ln, bb, hh, la, mp, sd, rc, pr, th, sm, pc, pu, pa, ua, T, M, B⟩ := htw
  obtain ⟨⟨vs, fx⟩, hn, hf, hpm, hz, hzh, hgh, hrf, hc, hDB⟩ := T.facts
  have hB := B
  obtain ⟨bn, bp, b3, b4, b5, b6, b7, b8, b9⟩ := hB
  have hln : ∀ j, j < pm → ln j ≤ 142 := fun j hj => by rw [(b3 j hj).1]; exact (hz j hj).1
  have hbb : ∀ j, j < pm → ∀ k, k < ln j → bb (142 * j + k) < 256 := fun j hj k hk => by rw [(b3 j hj).2 k (by rw [← (b3 j hj).1]; exact hk)]; exact (hz j hj).2 k
  refine lv_aload_n hx hb dL_law_726 rfl (lv_at hl 2 rfl) ?_
  refine lv_aload_n hx hb dL_law_727 rfl (lv_at hl 1 rfl) ?_
  refine lv_iload hx hb dL_law_728 (lv_at hl 0 rfl) ?_
  refine lv_iconst (v := nI 1) hx hb dL_law_730 (by decide) ?_
  refine lv_iadd hx hb dL_law_731 ?_
  refine ah_toi (v := nI ((4 * q) + 1)) (nI_add _ _) ?_
  refine va_sld (i := nI ((4 * q) + 1)) hx hb hXs hbl hbA hS (vp_in_nI (by omega) (by omega)) dL_law_732 ?_
  refine ah_toi (v := xs ((4 * q) + 1)) (by rw [nI_clamp (by omega)]) ?_
  refine lv_aload_n hx hb dL_law_733 rfl (lv_at hl 1 rfl) ?_
  refine lv_iload hx hb dL_law_734 (lv_at hl 0 rfl) ?_
  refine lv_iconst (v := nI 2) hx hb dL_law_736 (by decide) ?_
  refine lv_iadd hx hb dL_law_737 ?_
  refine ah_toi (v := nI ((4 * q) + 2)) (nI_add _ _) ?_
  refine va_sld (i := nI ((4 * q) + 2)) hx hb hXs hbl hbA hS (vp_in_nI (by omega) (by omega)) dL_law_738 ?_
  refine ah_toi (v := xs ((4 * q) + 2)) (by rw [nI_clamp (by omega)]) ?_
  refine lv_aload_n hx hb dL_law_739 rfl (lv_at hl 4 rfl) ?_
  refine ah_calli (vx_runSW (As := [.ref x, .int (xs ((4 * q) + 1)), .int (xs ((4 * q) + 2)), .ref o]) (rest := []) ⟨hx, hb, hml, hown, hts⟩ (c_L_heap l G h x o (xs ((4 * q) + 1)) (xs ((4 * q) + 2)) fx O (c_heapA l hlt G h x n pm zh rf c pt f z g gh D lat T (xs ((4 * q) + 1)) (xs ((4 * q) + 2))) (fun w9 h9 z9 => hp_o ((pa_heap (G := G) (h := h) (x := x) (n := n) (pm := pm) (zh := zh) (rf := rf) (c := c) (pt := pt) (f := f) (z := z) (g := g) (gh := gh) (D := D) (lat := lat)) w9 h9 z9) O) (fun E h9 z9 => z9.1)) (vx_cwSW 4 hts gL_law_L_heap rfl rfl rfl (by decide +kernel) ⟨Nat.le_of_ble_eq_true rfl, Nat.le_of_ble_eq_true rfl⟩) (ah_preH hE hX hN hR hS) rfl rfl hl.1 rfl (lv_room (Nat.le_of_ble_eq_true rfl)) dL_law_740 ⟨show cells + 1 ≤ room_1.cells by omega, show slots + 6 ≤ room_1.slots by omega⟩) hS (fun r1 h1 H locs p1 hR hS => ?_)
  have a1 := hp_ag (pa_heap (G := G) (h := h) (x := x) (n := n) (pm := pm) (zh := zh) (rf := rf) (c := c) (pt := pt) (f := f) (z := z) (g := g) (gh := gh) (D := D) (lat := lat)) (fun E h9 z9 => z9.2.2) O p1
  obtain ⟨my, m1, m2, m4, m7, m8, m10, m12, m14, m15, m16, m17, m18, m19, m21, m22, m24, m26⟩ := md_after M a1
  refine lv_istore (lv' := [(5, .int r1), (4, .int (nI (4 * q))), (0, .ref b), (1, .ref x), (2, .ref y), (3, .ref o)]) hx hb dL_law_743 hl (by decide) rfl (fun ls hl => ?_)
  refine lv_aload_n hx hb dL_law_745 rfl (lv_at hl 4 rfl) ?_
  refine lv_aload_n hx hb dL_law_746 rfl (lv_at hl 2 rfl) ?_
  refine lv_iload hx hb dL_law_747 (lv_at hl 1 rfl) ?_
  refine lv_iconst (v := nI 1) hx hb dL_law_749 (by decide) ?_
  refine lv_iadd hx hb dL_law_750 ?_
  refine ah_toi (v := nI ((4 * q) + 1)) (nI_add _ _) ?_
  refine va_sld (i := nI ((4 * q) + 1)) hx hb hXs hbl hbA hS (vp_in_nI (by omega) (by omega)) dL_law_751 ?_
  refine ah_toi (v := xs ((4 * q) + 1)) (by rw [nI_clamp (by omega)]) ?_
  refine lv_aload_n hx hb dL_law_752 rfl (lv_at hl 2 rfl) ?_
  refine lv_iload hx hb dL_law_753 (lv_at hl 1 rfl) ?_
  refine lv_iconst (v := nI 2) hx hb dL_law_755 (by decide) ?_
  refine lv_iadd hx hb dL_law_756 ?_
  refine ah_toi (v := nI ((4 * q) + 2)) (nI_add _ _) ?_
  refine va_sld (i := nI ((4 * q) + 2)) hx hb hXs hbl hbA hS (vp_in_nI (by omega) (by omega)) dL_law_757 ?_
  refine ah_toi (v := xs ((4 * q) + 2)) (by rw [nI_clamp (by omega)]) ?_
  refine ah_calli (va_runV (As := [.int (xs ((4 * q) + 1)), .int (xs ((4 * q) + 2))]) (rest := []) ⟨hx, hb, hml, hown, hts⟩ (c_m_heapA l G h1 y A k0 n rf pm zh lc c pt gv un my sd m15 rc m16 pr m17 th m18 hc (xs ((4 * q) + 1)) (xs ((4 * q) + 2))) (cwV 2 hts gL_law_X9_heap rfl rfl rfl (by decide +kernel) ⟨Nat.le_of_ble_eq_true rfl, Nat.le_of_ble_eq_true rfl⟩) (ah_preV hE hR hS my rfl) rfl rfl hl.1 rfl (lv_room (Nat.le_of_ble_eq_true rfl)) dL_law_758 ⟨show (cells + 1) + 0 ≤ room_1.cells by omega, show (slots + 6) + 0 ≤ room_1.slots by omega⟩) hS (fun r_3 h_1 H locs p_2 hR hS => ?_)
  obtain ⟨kk, fo9, ek, hk2, tw9, fO9, eq9⟩ := st_heap T M B O p1 p_2
  subst ek
  obtain ⟨A9, n9, rf9, pm9, zh9, lc9, c9, pt9, gv9, un9, fy9⟩ := tw9.fy
  refine lv_istore (lv' := [(6, .int r_3), (5, .int (nI kk)), (4, .int (nI (4 * q))), (0, .ref b), (1, .ref x), (2, .ref y), (3, .ref o)]) hx hb dL_law_761 hl (by decide) rfl (fun ls hl => ?_)
  refine lv_aload_n hx hb dL_law_763 rfl (lv_at hl 5 rfl) ?_
  refine ah_calli (va_runV (As := []) (rest := []) ⟨hx, hb, hml, hown, hts⟩ (c_m_thrown l G h_1 y A9 kk n9 rf9 pm9 zh9 lc9 c9 pt9 gv9 un9 fy9) (cwV 0 hts gL_law_X9_thrown rfl rfl rfl (by decide +kernel) ⟨Nat.le_of_ble_eq_true rfl, Nat.le_of_ble_eq_true rfl⟩) (ah_preV hE hR hS fy9 rfl) rfl rfl hl.1 rfl (lv_room (Nat.le_of_ble_eq_true rfl)) dL_law_764 ⟨show (cells + 1) + 0 ≤ room_1.cells by omega, show (slots + 6) + 0 ≤ room_1.slots by omega⟩) hS (fun r_6 h_4 H locs p_5 hR hS => ?_)
  obtain ⟨e_7, e_8⟩ := p_5
  rw [e_8] at hR
  refine ah_toi e_7 ?_
  refine lv_iload hx hb dL_law_767 (lv_at hl 1 rfl) ?_
  refine lv_icmp_eq (tgt := 774) hx hb dL_law_769 (by decide) (fun c_9 => ?_) (fun c_9 => ?_)
  · skip
    have c_9 : kk = kk := (nI_eq (by omega) (by omega)).mp c_9
    refine lv_iload hx hb dL_law_774 (lv_at hl 1 rfl) ?_
    refine lv_if_ne (tgt := 791) hx hb dL_law_776 (by decide) (fun c_10 => ?_) (fun c_10 => ?_)
    · skip
      have c_10 : ¬ (kk = 0) := fun z9 => c_10 ((zi_eq (by omega)).mpr z9)
      refine lv_goto (tgt := 850) hx hb dL_law_791 (by decide) ?_
      refine W.widen (k := cells + 20) (n := slots + 1200) (by omega) (by omega) ?_
      exact K _ _ _ _ _ ls tw9 fO9 hR hS (lv_sub hl [2, 3, 4, 5, 6] rfl)
    · skip
      have c_10 : kk = 0 := (zi_eq (by omega)).mp c_10
      refine lv_aload_n hx hb dL_law_779 rfl (lv_at hl 6 rfl) ?_
      refine lv_iconst (v := nI 0) hx hb dL_law_780 (by decide) ?_
      refine ah_lald (i := 0) (t := 12) (n := 1) hx hb hE hR fO9 (by decide) (by decide) dL_law_781 ?_
      refine lv_iload hx hb dL_law_782 (lv_at hl 0 rfl) ?_
      refine lv_i2l (v := (r_3).toInt64) hx hb dL_law_784 rfl ?_
      refine W.lcmp hx hb dL_law_785 ?_
      refine ah_toi (v := nI 0) (by rw [eq9 c_10]; exact lg_0 _) ?_
      refine lv_if_eq (tgt := 791) hx hb dL_law_786 (by decide) (fun c_11 => ?_) (fun c_11 => ?_)
      · skip
        refine lv_goto (tgt := 850) hx hb dL_law_791 (by decide) ?_
        refine W.widen (k := cells + 20) (n := slots + 1200) (by omega) (by omega) ?_
        exact K _ _ _ _ _ ls tw9 fO9 hR hS (lv_sub hl [2, 3, 4, 5, 6] rfl)
      · skip
        exact absurd (by decide) c_11
  · skip
    have c_9 : ¬ (kk = kk) := fun z9 => c_9 ((nI_eq (by omega) (by omega)).mpr z9)
    exact absurd rfl c_9

set_option maxHeartbeats 4000000 in
set_option maxRecDepth 100000 in
theorem law_forget {p : Program} {l : Launch} {e : Env} {s : State} {m : MethodId} {below : List Frame} {meth : Method} {cd9 : Code} {Q : State → Prop} {b L : Nat} {xs : Nat → Int32} {G : ah_G} {x y o q cells slots : Nat} (C : lwC p l s m cd9 b L xs G) (hL : L ≤ 2048) (hq : 4 * q + 4 ≤ L) (hcells : cells + 20 ≤ room_1.cells) (hslots : slots + 1200 ≤ room_1.slots) (K : lwK p l e s m below meth cd9 Q b G x y o q cells slots) {k0 : Nat} {fo : Nat → Int64} {h : ah_H} {H : Heap} {locs : List Loc} {ls : Array Slot} (htw : tw G h x y q k0) (O : h o = some (oC G fo)) (hR : ah_R G h H) (hS : va_S (ah_A G) s.heap H locs) (hl : lv_has ls 7 [(4, .int (nI (4 * q))), (0, .ref b), (1, .ref x), (2, .ref y), (3, .ref o)]) : W p l e room_1 s m #[Value.ref b] below meth cd9 H locs cells slots Q (F0 m 794 ls []) := by
  obtain ⟨hx, hb, hml, hown, hts, hXs, hbl, hbA, hE, hX, hN, hlt⟩ := C
  obtain ⟨n, pm, zh, rf, c, pt, lc, gv, un, f, z, g, gh, D, lat, A, ln, bb, hh, la, mp, sd, rc, pr, th, sm, pc, pu, pa, ua, T, M, B⟩ := htw
  obtain ⟨⟨vs, fx⟩, hn, hf, hpm, hz, hzh, hgh, hrf, hc, hDB⟩ := T.facts
  have hB := B
  obtain ⟨bn, bp, b3, b4, b5, b6, b7, b8, b9⟩ := hB
  have hln : ∀ j, j < pm → ln j ≤ 142 := fun j hj => by rw [(b3 j hj).1]; exact (hz j hj).1
  have hbb : ∀ j, j < pm → ∀ k, k < ln j → bb (142 * j + k) < 256 := fun j hj k hk => by rw [(b3 j hj).2 k (by rw [← (b3 j hj).1]; exact hk)]; exact (hz j hj).2 k
  refine lv_aload_n hx hb dL_law_794 rfl (lv_at hl 2 rfl) ?_
  refine lv_aload_n hx hb dL_law_795 rfl (lv_at hl 1 rfl) ?_
  refine lv_iload hx hb dL_law_796 (lv_at hl 0 rfl) ?_
  refine lv_iconst (v := nI 1) hx hb dL_law_798 (by decide) ?_
  refine lv_iadd hx hb dL_law_799 ?_
  refine ah_toi (v := nI ((4 * q) + 1)) (nI_add _ _) ?_
  refine va_sld (i := nI ((4 * q) + 1)) hx hb hXs hbl hbA hS (vp_in_nI (by omega) (by omega)) dL_law_800 ?_
  refine ah_toi (v := xs ((4 * q) + 1)) (by rw [nI_clamp (by omega)]) ?_
  refine lv_aload_n hx hb dL_law_801 rfl (lv_at hl 4 rfl) ?_
  refine ah_calli (vx_runSW (As := [.ref x, .int (xs ((4 * q) + 1)), .ref o]) (rest := []) ⟨hx, hb, hml, hown, hts⟩ (c_L_forget l G h x o (xs ((4 * q) + 1)) fx O (c_forget l hlt G h x n pm zh rf c pt f z g gh D lat T (xs ((4 * q) + 1))) (fun w9 h9 z9 => hp_o ((pa_forget (G := G) (h := h) (x := x) (n := n) (pm := pm) (zh := zh) (rf := rf) (c := c) (pt := pt) (f := f) (z := z) (g := g) (gh := gh) (D := D) (lat := lat)) w9 h9 z9) O) (fun E h9 z9 => z9.1)) (vx_cwSW 3 hts gL_law_L_forget rfl rfl rfl (by decide +kernel) ⟨Nat.le_of_ble_eq_true rfl, Nat.le_of_ble_eq_true rfl⟩) (ah_preH hE hX hN hR hS) rfl rfl hl.1 rfl (lv_room (Nat.le_of_ble_eq_true rfl)) dL_law_802 ⟨show cells + 1 ≤ room_1.cells by omega, show slots + 6 ≤ room_1.slots by omega⟩) hS (fun r1 h1 H locs p1 hR hS => ?_)
  have a1 := hp_ag (pa_forget (G := G) (h := h) (x := x) (n := n) (pm := pm) (zh := zh) (rf := rf) (c := c) (pt := pt) (f := f) (z := z) (g := g) (gh := gh) (D := D) (lat := lat)) (fun E h9 z9 => z9.2.2) O p1
  obtain ⟨my, m1, m2, m4, m7, m8, m10, m12, m14, m15, m16, m17, m18, m19, m21, m22, m24, m26⟩ := md_after M a1
  refine lv_istore (lv' := [(5, .int r1), (4, .int (nI (4 * q))), (0, .ref b), (1, .ref x), (2, .ref y), (3, .ref o)]) hx hb dL_law_805 hl (by decide) rfl (fun ls hl => ?_)
  refine lv_aload_n hx hb dL_law_807 rfl (lv_at hl 4 rfl) ?_
  refine lv_aload_n hx hb dL_law_808 rfl (lv_at hl 2 rfl) ?_
  refine lv_iload hx hb dL_law_809 (lv_at hl 1 rfl) ?_
  refine lv_iconst (v := nI 1) hx hb dL_law_811 (by decide) ?_
  refine lv_iadd hx hb dL_law_812 ?_
  refine ah_toi (v := nI ((4 * q) + 1)) (nI_add _ _) ?_
  refine va_sld (i := nI ((4 * q) + 1)) hx hb hXs hbl hbA hS (vp_in_nI (by omega) (by omega)) dL_law_813 ?_
  refine ah_toi (v := xs ((4 * q) + 1)) (by rw [nI_clamp (by omega)]) ?_
  refine ah_calli (va_runV (As := [.int (xs ((4 * q) + 1))]) (rest := []) ⟨hx, hb, hml, hown, hts⟩ (c_m_forget l G h1 y A k0 n rf pm zh lc c pt gv un my mp m14 sd m15 rc m16 pr m17 th m18 sm m19 hc D pc pu b7 hDB (xs ((4 * q) + 1))) (cwV 1 hts gL_law_X9_forget rfl rfl rfl (by decide +kernel) ⟨Nat.le_of_ble_eq_true rfl, Nat.le_of_ble_eq_true rfl⟩) (ah_preV hE hR hS my rfl) rfl rfl hl.1 rfl (lv_room (Nat.le_of_ble_eq_true rfl)) dL_law_814 ⟨show (cells + 1) + 0 ≤ room_1.cells by omega, show (slots + 6) + 0 ≤ room_1.slots by omega⟩) hS (fun r_3 h_1 H locs p_2 hR hS => ?_)
  obtain ⟨kk, fo9, ek, hk2, tw9, fO9, eq9⟩ := st_forget T M B O p1 p_2
  subst ek
  obtain ⟨A9, n9, rf9, pm9, zh9, lc9, c9, pt9, gv9, un9, fy9⟩ := tw9.fy
  refine lv_istore (lv' := [(6, .int r_3), (5, .int (nI kk)), (4, .int (nI (4 * q))), (0, .ref b), (1, .ref x), (2, .ref y), (3, .ref o)]) hx hb dL_law_817 hl (by decide) rfl (fun ls hl => ?_)
  refine lv_aload_n hx hb dL_law_819 rfl (lv_at hl 5 rfl) ?_
  refine ah_calli (va_runV (As := []) (rest := []) ⟨hx, hb, hml, hown, hts⟩ (c_m_thrown l G h_1 y A9 kk n9 rf9 pm9 zh9 lc9 c9 pt9 gv9 un9 fy9) (cwV 0 hts gL_law_X9_thrown rfl rfl rfl (by decide +kernel) ⟨Nat.le_of_ble_eq_true rfl, Nat.le_of_ble_eq_true rfl⟩) (ah_preV hE hR hS fy9 rfl) rfl rfl hl.1 rfl (lv_room (Nat.le_of_ble_eq_true rfl)) dL_law_820 ⟨show (cells + 1) + 0 ≤ room_1.cells by omega, show (slots + 6) + 0 ≤ room_1.slots by omega⟩) hS (fun r_6 h_4 H locs p_5 hR hS => ?_)
  obtain ⟨e_7, e_8⟩ := p_5
  rw [e_8] at hR
  refine ah_toi e_7 ?_
  refine lv_iload hx hb dL_law_823 (lv_at hl 1 rfl) ?_
  refine lv_icmp_eq (tgt := 830) hx hb dL_law_825 (by decide) (fun c_9 => ?_) (fun c_9 => ?_)
  · skip
    have c_9 : kk = kk := (nI_eq (by omega) (by omega)).mp c_9
    refine lv_iload hx hb dL_law_830 (lv_at hl 1 rfl) ?_
    refine lv_if_ne (tgt := 847) hx hb dL_law_832 (by decide) (fun c_10 => ?_) (fun c_10 => ?_)
    · skip
      have c_10 : ¬ (kk = 0) := fun z9 => c_10 ((zi_eq (by omega)).mpr z9)
      refine lv_goto (tgt := 850) hx hb dL_law_847 (by decide) ?_
      refine W.widen (k := cells + 20) (n := slots + 1200) (by omega) (by omega) ?_
      exact K _ _ _ _ _ ls tw9 fO9 hR hS (lv_sub hl [2, 3, 4, 5, 6] rfl)
    · skip
      have c_10 : kk = 0 := (zi_eq (by omega)).mp c_10
      refine lv_aload_n hx hb dL_law_835 rfl (lv_at hl 6 rfl) ?_
      refine lv_iconst (v := nI 0) hx hb dL_law_836 (by decide) ?_
      refine ah_lald (i := 0) (t := 12) (n := 1) hx hb hE hR fO9 (by decide) (by decide) dL_law_837 ?_
      refine lv_iload hx hb dL_law_838 (lv_at hl 0 rfl) ?_
      refine lv_i2l (v := (r_3).toInt64) hx hb dL_law_840 rfl ?_
      refine W.lcmp hx hb dL_law_841 ?_
      refine ah_toi (v := nI 0) (by rw [eq9 c_10]; exact lg_0 _) ?_
      refine lv_if_eq (tgt := 847) hx hb dL_law_842 (by decide) (fun c_11 => ?_) (fun c_11 => ?_)
      · skip
        refine lv_goto (tgt := 850) hx hb dL_law_847 (by decide) ?_
        refine W.widen (k := cells + 20) (n := slots + 1200) (by omega) (by omega) ?_
        exact K _ _ _ _ _ ls tw9 fO9 hR hS (lv_sub hl [2, 3, 4, 5, 6] rfl)
      · skip
        exact absurd (by decide) c_11
  · skip
    have c_9 : ¬ (kk = kk) := fun z9 => c_9 ((nI_eq (by omega) (by omega)).mpr z9)
    exact absurd rfl c_9

set_option maxHeartbeats 4000000 in
set_option maxRecDepth 100000 in
theorem law_unit {p : Program} {l : Launch} {e : Env} {s : State} {m : MethodId} {below : List Frame} {meth : Method} {cd9 : Code} {Q : State → Prop} {b L : Nat} {xs : Nat → Int32} {G : ah_G} {x y o q cells slots : Nat} (C : lwC p l s m cd9 b L xs G) (hL : L ≤ 2048) (hq : 4 * q + 4 ≤ L) (hcells : cells + 20 ≤ room_1.cells) (hslots : slots + 1200 ≤ room_1.slots) (K : lwK p l e s m below meth cd9 Q b G x y o q cells slots) {k0 : Nat} {fo : Nat → Int64} {h : ah_H} {H : Heap} {locs : List Loc} {ls : Array Slot} (htw : tw G h x y q k0) (O : h o = some (oC G fo)) (hR : ah_R G h H) (hS : va_S (ah_A G) s.heap H locs) (hl : lv_has ls 7 [(4, .int (nI (4 * q))), (0, .ref b), (1, .ref x), (2, .ref y), (3, .ref o)]) : W p l e room_1 s m #[Value.ref b] below meth cd9 H locs cells slots Q (F0 m 701 ls []) := by
  obtain ⟨hx, hb, hml, hown, hts, hXs, hbl, hbA, hE, hX, hN, hlt⟩ := C
  obtain ⟨n, pm, zh, rf, c, pt, lc, gv, un, f, z, g, gh, D, lat, A, ln, bb, hh, la, mp, sd, rc, pr, th, sm, pc, pu, pa, ua, T, M, B⟩ := htw
  obtain ⟨⟨vs, fx⟩, hn, hf, hpm, hz, hzh, hgh, hrf, hc, hDB⟩ := T.facts
  have hB := B
  obtain ⟨bn, bp, b3, b4, b5, b6, b7, b8, b9⟩ := hB
  have hln : ∀ j, j < pm → ln j ≤ 142 := fun j hj => by rw [(b3 j hj).1]; exact (hz j hj).1
  have hbb : ∀ j, j < pm → ∀ k, k < ln j → bb (142 * j + k) < 256 := fun j hj k hk => by rw [(b3 j hj).2 k (by rw [← (b3 j hj).1]; exact hk)]; exact (hz j hj).2 k
  refine lv_aload_n hx hb dL_law_701 rfl (lv_at hl 2 rfl) ?_
  refine lv_aload_n hx hb dL_law_702 rfl (lv_at hl 1 rfl) ?_
  refine lv_iload hx hb dL_law_703 (lv_at hl 0 rfl) ?_
  refine lv_iconst (v := nI 1) hx hb dL_law_705 (by decide) ?_
  refine lv_iadd hx hb dL_law_706 ?_
  refine ah_toi (v := nI ((4 * q) + 1)) (nI_add _ _) ?_
  refine va_sld (i := nI ((4 * q) + 1)) hx hb hXs hbl hbA hS (vp_in_nI (by omega) (by omega)) dL_law_707 ?_
  refine ah_toi (v := xs ((4 * q) + 1)) (by rw [nI_clamp (by omega)]) ?_
  refine ah_calli (va_runV (As := [.int (xs ((4 * q) + 1))]) (rest := []) ⟨hx, hb, hml, hown, hts⟩ (c_unit l G h x n pm zh rf c pt f z g gh D lat T (xs ((4 * q) + 1))) (cwV 1 hts gL_law_X8_unit rfl rfl rfl (by decide +kernel) ⟨Nat.le_of_ble_eq_true rfl, Nat.le_of_ble_eq_true rfl⟩) (ah_preV hE hR hS fx rfl) rfl rfl hl.1 rfl (lv_room (Nat.le_of_ble_eq_true rfl)) dL_law_708 ⟨show (cells) + 0 ≤ room_1.cells by omega, show (slots) + 0 ≤ room_1.slots by omega⟩) hS (fun r_3 h_1 H locs p_2 hR hS => ?_)
  have p1 := p_2
  have a1 : agr (fun t => ¬ cT t ∧ t ≠ 12) h h_1 := by rw [p1.2]; exact agr.rf
  obtain ⟨my, m1, m2, m4, m7, m8, m10, m12, m14, m15, m16, m17, m18, m19, m21, m22, m24, m26⟩ := md_after M a1
  refine lv_aload_n hx hb dL_law_711 rfl (lv_at hl 3 rfl) ?_
  refine lv_aload_n hx hb dL_law_712 rfl (lv_at hl 1 rfl) ?_
  refine lv_iload hx hb dL_law_713 (lv_at hl 0 rfl) ?_
  refine lv_iconst (v := nI 1) hx hb dL_law_715 (by decide) ?_
  refine lv_iadd hx hb dL_law_716 ?_
  refine ah_toi (v := nI ((4 * q) + 1)) (nI_add _ _) ?_
  refine va_sld (i := nI ((4 * q) + 1)) hx hb hXs hbl hbA hS (vp_in_nI (by omega) (by omega)) dL_law_717 ?_
  refine ah_toi (v := xs ((4 * q) + 1)) (by rw [nI_clamp (by omega)]) ?_
  refine ah_calli (va_runV (As := [.int (xs ((4 * q) + 1))]) (rest := [.int r_3]) ⟨hx, hb, hml, hown, hts⟩ (c_m_unit l G h_1 y A k0 n rf pm zh lc c pt gv un my la m12 b9.le (xs ((4 * q) + 1))) (cwV 1 hts gL_law_X9_unit rfl rfl rfl (by decide +kernel) ⟨Nat.le_of_ble_eq_true rfl, Nat.le_of_ble_eq_true rfl⟩) (ah_preV hE hR hS my rfl) rfl rfl hl.1 rfl (lv_room (Nat.le_of_ble_eq_true rfl)) dL_law_718 ⟨show (cells) + 0 ≤ room_1.cells by omega, show (slots) + 0 ≤ room_1.slots by omega⟩) hS (fun r_6 h_4 H locs p_5 hR hS => ?_)
  obtain ⟨er, tw9, fO9⟩ := st_unit T M B O p1 p_5
  refine lv_icmp_eq (tgt := 850) hx hb dL_law_721 (by decide) (fun c_7 => ?_) (fun c_7 => ?_)
  · skip
    refine W.widen (k := cells + 20) (n := slots + 1200) (by omega) (by omega) ?_
    exact K _ _ _ _ _ ls tw9 fO9 hR hS (lv_sub hl [0, 1, 2, 3, 4] rfl)
  · skip
    exact absurd er c_7
