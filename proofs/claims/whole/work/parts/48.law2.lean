
set_option maxHeartbeats 4000000 in
set_option maxRecDepth 100000 in
theorem law_length {p : Program} {l : Launch} {e : Env} {s : State} {m : MethodId} {below : List Frame} {meth : Method} {cd9 : Code} {Q : State → Prop} {b L : Nat} {xs : Nat → Int32} {G : ah_G} {x y o q cells slots : Nat} (C : lwC p l s m cd9 b L xs G) (hL : L ≤ 2048) (hq : 4 * q + 4 ≤ L) (hcells : cells + 20 ≤ room_1.cells) (hslots : slots + 1200 ≤ room_1.slots) (K : lwK p l e s m below meth cd9 Q b G x y o q cells slots) {k0 : Nat} {fo : Nat → Int64} {h : ah_H} {H : Heap} {locs : List Loc} {ls : Array Slot} (htw : tw G h x y q k0) (O : h o = some (oC G fo)) (hR : ah_R G h H) (hS : va_S (ah_A G) s.heap H locs) (hl : lv_has ls 7 [(4, .int (nI (4 * q))), (0, .ref b), (1, .ref x), (2, .ref y), (3, .ref o)]) : W p l e room_1 s m #[Value.ref b] below meth cd9 H locs cells slots Q (F0 m 273 ls []) := by
  obtain ⟨hx, hb, hml, hown, hts, hXs, hbl, hbA, hE, hX, hN, hlt⟩ := C
  obtain ⟨n, pm, zh, rf, c, pt, lc, gv, un, f, z, g, gh, D, lat, A, ln, bb, hh, la, mp, sd, rc, pr, th, sm, pc, pu, pa, ua, T, M, B⟩ := htw
  obtain ⟨⟨vs, fx⟩, hn, hf, hpm, hz, hzh, hgh, hrf, hc, hDB⟩ := T.facts
  have hB := B
  obtain ⟨bn, bp, b3, b4, b5, b6, b7, b8, b9⟩ := hB
  have hln : ∀ j, j < pm → ln j ≤ 142 := fun j hj => by rw [(b3 j hj).1]; exact (hz j hj).1
  have hbb : ∀ j, j < pm → ∀ k, k < ln j → bb (142 * j + k) < 256 := fun j hj k hk => by rw [(b3 j hj).2 k (by rw [← (b3 j hj).1]; exact hk)]; exact (hz j hj).2 k
  refine lv_aload_n hx hb dL_law_273 rfl (lv_at hl 2 rfl) ?_
  refine lv_aload_n hx hb dL_law_274 rfl (lv_at hl 1 rfl) ?_
  refine lv_iload hx hb dL_law_275 (lv_at hl 0 rfl) ?_
  refine lv_iconst (v := nI 1) hx hb dL_law_277 (by decide) ?_
  refine lv_iadd hx hb dL_law_278 ?_
  refine ah_toi (v := nI ((4 * q) + 1)) (nI_add _ _) ?_
  refine va_sld (i := nI ((4 * q) + 1)) hx hb hXs hbl hbA hS (vp_in_nI (by omega) (by omega)) dL_law_279 ?_
  refine ah_toi (v := xs ((4 * q) + 1)) (by rw [nI_clamp (by omega)]) ?_
  refine lv_aload_n hx hb dL_law_280 rfl (lv_at hl 4 rfl) ?_
  refine ah_calli (vx_runSW (As := [.ref x, .int (xs ((4 * q) + 1)), .ref o]) (rest := []) ⟨hx, hb, hml, hown, hts⟩ (c_L_length l G h x o (xs ((4 * q) + 1)) fx O (c_length l hlt G h x n pm zh rf c pt f z g gh D lat T (xs ((4 * q) + 1))) (fun w9 h9 z9 => hp_o ((pa_length (G := G) (h := h) (x := x) (n := n) (pm := pm) (zh := zh) (rf := rf) (c := c) (pt := pt) (f := f) (z := z) (g := g) (gh := gh) (D := D) (lat := lat)) w9 h9 z9) O) (fun E h9 z9 => z9.1)) (vx_cwSW 3 hts gL_law_L_length rfl rfl rfl (by decide +kernel) ⟨Nat.le_of_ble_eq_true rfl, Nat.le_of_ble_eq_true rfl⟩) (ah_preH hE hX hN hR hS) rfl rfl hl.1 rfl (lv_room (Nat.le_of_ble_eq_true rfl)) dL_law_281 ⟨show cells + 1 ≤ room_1.cells by omega, show slots + 6 ≤ room_1.slots by omega⟩) hS (fun r1 h1 H locs p1 hR hS => ?_)
  have a1 := hp_ag (pa_length (G := G) (h := h) (x := x) (n := n) (pm := pm) (zh := zh) (rf := rf) (c := c) (pt := pt) (f := f) (z := z) (g := g) (gh := gh) (D := D) (lat := lat)) (fun E h9 z9 => z9.2.2) O p1
  obtain ⟨my, m1, m2, m4, m7, m8, m10, m12, m14, m15, m16, m17, m18, m19, m21, m22, m24, m26⟩ := md_after M a1
  refine lv_istore (lv' := [(5, .int r1), (4, .int (nI (4 * q))), (0, .ref b), (1, .ref x), (2, .ref y), (3, .ref o)]) hx hb dL_law_284 hl (by decide) rfl (fun ls hl => ?_)
  refine lv_aload_n hx hb dL_law_286 rfl (lv_at hl 4 rfl) ?_
  refine lv_aload_n hx hb dL_law_287 rfl (lv_at hl 2 rfl) ?_
  refine lv_iload hx hb dL_law_288 (lv_at hl 1 rfl) ?_
  refine lv_iconst (v := nI 1) hx hb dL_law_290 (by decide) ?_
  refine lv_iadd hx hb dL_law_291 ?_
  refine ah_toi (v := nI ((4 * q) + 1)) (nI_add _ _) ?_
  refine va_sld (i := nI ((4 * q) + 1)) hx hb hXs hbl hbA hS (vp_in_nI (by omega) (by omega)) dL_law_292 ?_
  refine ah_toi (v := xs ((4 * q) + 1)) (by rw [nI_clamp (by omega)]) ?_
  refine ah_calli (va_runV (As := [.int (xs ((4 * q) + 1))]) (rest := []) ⟨hx, hb, hml, hown, hts⟩ (c_m_length l G h1 y A k0 n rf pm zh lc c pt gv un my ln m7 hpm (xs ((4 * q) + 1))) (cwV 1 hts gL_law_X9_length rfl rfl rfl (by decide +kernel) ⟨Nat.le_of_ble_eq_true rfl, Nat.le_of_ble_eq_true rfl⟩) (ah_preV hE hR hS my rfl) rfl rfl hl.1 rfl (lv_room (Nat.le_of_ble_eq_true rfl)) dL_law_293 ⟨show (cells + 1) + 0 ≤ room_1.cells by omega, show (slots + 6) + 0 ≤ room_1.slots by omega⟩) hS (fun r_3 h_1 H locs p_2 hR hS => ?_)
  obtain ⟨kk, fo9, ek, hk2, tw9, fO9, eq9⟩ := st_length T M B O p1 p_2
  subst ek
  obtain ⟨A9, n9, rf9, pm9, zh9, lc9, c9, pt9, gv9, un9, fy9⟩ := tw9.fy
  refine lv_istore (lv' := [(6, .int r_3), (5, .int (nI kk)), (4, .int (nI (4 * q))), (0, .ref b), (1, .ref x), (2, .ref y), (3, .ref o)]) hx hb dL_law_296 hl (by decide) rfl (fun ls hl => ?_)
  refine lv_aload_n hx hb dL_law_298 rfl (lv_at hl 5 rfl) ?_
  refine ah_calli (va_runV (As := []) (rest := []) ⟨hx, hb, hml, hown, hts⟩ (c_m_thrown l G h_1 y A9 kk n9 rf9 pm9 zh9 lc9 c9 pt9 gv9 un9 fy9) (cwV 0 hts gL_law_X9_thrown rfl rfl rfl (by decide +kernel) ⟨Nat.le_of_ble_eq_true rfl, Nat.le_of_ble_eq_true rfl⟩) (ah_preV hE hR hS fy9 rfl) rfl rfl hl.1 rfl (lv_room (Nat.le_of_ble_eq_true rfl)) dL_law_299 ⟨show (cells + 1) + 0 ≤ room_1.cells by omega, show (slots + 6) + 0 ≤ room_1.slots by omega⟩) hS (fun r_6 h_4 H locs p_5 hR hS => ?_)
  obtain ⟨e_7, e_8⟩ := p_5
  rw [e_8] at hR
  refine ah_toi e_7 ?_
  refine lv_iload hx hb dL_law_302 (lv_at hl 1 rfl) ?_
  refine lv_icmp_eq (tgt := 309) hx hb dL_law_304 (by decide) (fun c_9 => ?_) (fun c_9 => ?_)
  · skip
    have c_9 : kk = kk := (nI_eq (by omega) (by omega)).mp c_9
    refine lv_iload hx hb dL_law_309 (lv_at hl 1 rfl) ?_
    refine lv_if_ne (tgt := 326) hx hb dL_law_311 (by decide) (fun c_10 => ?_) (fun c_10 => ?_)
    · skip
      have c_10 : ¬ (kk = 0) := fun z9 => c_10 ((zi_eq (by omega)).mpr z9)
      refine lv_goto (tgt := 850) hx hb dL_law_326 (by decide) ?_
      refine W.widen (k := cells + 20) (n := slots + 1200) (by omega) (by omega) ?_
      exact K _ _ _ _ _ ls tw9 fO9 hR hS (lv_sub hl [2, 3, 4, 5, 6] rfl)
    · skip
      have c_10 : kk = 0 := (zi_eq (by omega)).mp c_10
      refine lv_aload_n hx hb dL_law_314 rfl (lv_at hl 6 rfl) ?_
      refine lv_iconst (v := nI 0) hx hb dL_law_315 (by decide) ?_
      refine ah_lald (i := 0) (t := 12) (n := 1) hx hb hE hR fO9 (by decide) (by decide) dL_law_316 ?_
      refine lv_iload hx hb dL_law_317 (lv_at hl 0 rfl) ?_
      refine lv_i2l (v := (r_3).toInt64) hx hb dL_law_319 rfl ?_
      refine W.lcmp hx hb dL_law_320 ?_
      refine ah_toi (v := nI 0) (by rw [eq9 c_10]; exact lg_0 _) ?_
      refine lv_if_eq (tgt := 326) hx hb dL_law_321 (by decide) (fun c_11 => ?_) (fun c_11 => ?_)
      · skip
        refine lv_goto (tgt := 850) hx hb dL_law_326 (by decide) ?_
        refine W.widen (k := cells + 20) (n := slots + 1200) (by omega) (by omega) ?_
        exact K _ _ _ _ _ ls tw9 fO9 hR hS (lv_sub hl [2, 3, 4, 5, 6] rfl)
      · skip
        exact absurd (by decide) c_11
  · skip
    have c_9 : ¬ (kk = kk) := fun z9 => c_9 ((nI_eq (by omega) (by omega)).mpr z9)
    exact absurd rfl c_9

set_option maxHeartbeats 4000000 in
set_option maxRecDepth 100000 in
theorem law_byteOf {p : Program} {l : Launch} {e : Env} {s : State} {m : MethodId} {below : List Frame} {meth : Method} {cd9 : Code} {Q : State → Prop} {b L : Nat} {xs : Nat → Int32} {G : ah_G} {x y o q cells slots : Nat} (C : lwC p l s m cd9 b L xs G) (hL : L ≤ 2048) (hq : 4 * q + 4 ≤ L) (hcells : cells + 20 ≤ room_1.cells) (hslots : slots + 1200 ≤ room_1.slots) (K : lwK p l e s m below meth cd9 Q b G x y o q cells slots) {k0 : Nat} {fo : Nat → Int64} {h : ah_H} {H : Heap} {locs : List Loc} {ls : Array Slot} (htw : tw G h x y q k0) (O : h o = some (oC G fo)) (hR : ah_R G h H) (hS : va_S (ah_A G) s.heap H locs) (hl : lv_has ls 7 [(4, .int (nI (4 * q))), (0, .ref b), (1, .ref x), (2, .ref y), (3, .ref o)]) : W p l e room_1 s m #[Value.ref b] below meth cd9 H locs cells slots Q (F0 m 329 ls []) := by
  obtain ⟨hx, hb, hml, hown, hts, hXs, hbl, hbA, hE, hX, hN, hlt⟩ := C
  obtain ⟨n, pm, zh, rf, c, pt, lc, gv, un, f, z, g, gh, D, lat, A, ln, bb, hh, la, mp, sd, rc, pr, th, sm, pc, pu, pa, ua, T, M, B⟩ := htw
  obtain ⟨⟨vs, fx⟩, hn, hf, hpm, hz, hzh, hgh, hrf, hc, hDB⟩ := T.facts
  have hB := B
  obtain ⟨bn, bp, b3, b4, b5, b6, b7, b8, b9⟩ := hB
  have hln : ∀ j, j < pm → ln j ≤ 142 := fun j hj => by rw [(b3 j hj).1]; exact (hz j hj).1
  have hbb : ∀ j, j < pm → ∀ k, k < ln j → bb (142 * j + k) < 256 := fun j hj k hk => by rw [(b3 j hj).2 k (by rw [← (b3 j hj).1]; exact hk)]; exact (hz j hj).2 k
  refine lv_aload_n hx hb dL_law_329 rfl (lv_at hl 2 rfl) ?_
  refine lv_aload_n hx hb dL_law_330 rfl (lv_at hl 1 rfl) ?_
  refine lv_iload hx hb dL_law_331 (lv_at hl 0 rfl) ?_
  refine lv_iconst (v := nI 1) hx hb dL_law_333 (by decide) ?_
  refine lv_iadd hx hb dL_law_334 ?_
  refine ah_toi (v := nI ((4 * q) + 1)) (nI_add _ _) ?_
  refine va_sld (i := nI ((4 * q) + 1)) hx hb hXs hbl hbA hS (vp_in_nI (by omega) (by omega)) dL_law_335 ?_
  refine ah_toi (v := xs ((4 * q) + 1)) (by rw [nI_clamp (by omega)]) ?_
  refine lv_aload_n hx hb dL_law_336 rfl (lv_at hl 1 rfl) ?_
  refine lv_iload hx hb dL_law_337 (lv_at hl 0 rfl) ?_
  refine lv_iconst (v := nI 2) hx hb dL_law_339 (by decide) ?_
  refine lv_iadd hx hb dL_law_340 ?_
  refine ah_toi (v := nI ((4 * q) + 2)) (nI_add _ _) ?_
  refine va_sld (i := nI ((4 * q) + 2)) hx hb hXs hbl hbA hS (vp_in_nI (by omega) (by omega)) dL_law_341 ?_
  refine ah_toi (v := xs ((4 * q) + 2)) (by rw [nI_clamp (by omega)]) ?_
  refine lv_aload_n hx hb dL_law_342 rfl (lv_at hl 4 rfl) ?_
  refine ah_calli (vx_runSW (As := [.ref x, .int (xs ((4 * q) + 1)), .int (xs ((4 * q) + 2)), .ref o]) (rest := []) ⟨hx, hb, hml, hown, hts⟩ (c_L_byteOf l G h x o (xs ((4 * q) + 1)) (xs ((4 * q) + 2)) fx O (c_byteOf l hlt G h x n pm zh rf c pt f z g gh D lat T (xs ((4 * q) + 1)) (xs ((4 * q) + 2))) (fun w9 h9 z9 => hp_o ((pa_byteOf (G := G) (h := h) (x := x) (n := n) (pm := pm) (zh := zh) (rf := rf) (c := c) (pt := pt) (f := f) (z := z) (g := g) (gh := gh) (D := D) (lat := lat)) w9 h9 z9) O) (fun E h9 z9 => z9.1)) (vx_cwSW 4 hts gL_law_L_byteOf rfl rfl rfl (by decide +kernel) ⟨Nat.le_of_ble_eq_true rfl, Nat.le_of_ble_eq_true rfl⟩) (ah_preH hE hX hN hR hS) rfl rfl hl.1 rfl (lv_room (Nat.le_of_ble_eq_true rfl)) dL_law_343 ⟨show cells + 1 ≤ room_1.cells by omega, show slots + 6 ≤ room_1.slots by omega⟩) hS (fun r1 h1 H locs p1 hR hS => ?_)
  have a1 := hp_ag (pa_byteOf (G := G) (h := h) (x := x) (n := n) (pm := pm) (zh := zh) (rf := rf) (c := c) (pt := pt) (f := f) (z := z) (g := g) (gh := gh) (D := D) (lat := lat)) (fun E h9 z9 => z9.2.2) O p1
  obtain ⟨my, m1, m2, m4, m7, m8, m10, m12, m14, m15, m16, m17, m18, m19, m21, m22, m24, m26⟩ := md_after M a1
  refine lv_istore (lv' := [(5, .int r1), (4, .int (nI (4 * q))), (0, .ref b), (1, .ref x), (2, .ref y), (3, .ref o)]) hx hb dL_law_346 hl (by decide) rfl (fun ls hl => ?_)
  refine lv_aload_n hx hb dL_law_348 rfl (lv_at hl 4 rfl) ?_
  refine lv_aload_n hx hb dL_law_349 rfl (lv_at hl 2 rfl) ?_
  refine lv_iload hx hb dL_law_350 (lv_at hl 1 rfl) ?_
  refine lv_iconst (v := nI 1) hx hb dL_law_352 (by decide) ?_
  refine lv_iadd hx hb dL_law_353 ?_
  refine ah_toi (v := nI ((4 * q) + 1)) (nI_add _ _) ?_
  refine va_sld (i := nI ((4 * q) + 1)) hx hb hXs hbl hbA hS (vp_in_nI (by omega) (by omega)) dL_law_354 ?_
  refine ah_toi (v := xs ((4 * q) + 1)) (by rw [nI_clamp (by omega)]) ?_
  refine lv_aload_n hx hb dL_law_355 rfl (lv_at hl 2 rfl) ?_
  refine lv_iload hx hb dL_law_356 (lv_at hl 1 rfl) ?_
  refine lv_iconst (v := nI 2) hx hb dL_law_358 (by decide) ?_
  refine lv_iadd hx hb dL_law_359 ?_
  refine ah_toi (v := nI ((4 * q) + 2)) (nI_add _ _) ?_
  refine va_sld (i := nI ((4 * q) + 2)) hx hb hXs hbl hbA hS (vp_in_nI (by omega) (by omega)) dL_law_360 ?_
  refine ah_toi (v := xs ((4 * q) + 2)) (by rw [nI_clamp (by omega)]) ?_
  refine ah_calli (va_runV (As := [.int (xs ((4 * q) + 1)), .int (xs ((4 * q) + 2))]) (rest := []) ⟨hx, hb, hml, hown, hts⟩ (c_m_byteOf l G h1 y A k0 n rf pm zh lc c pt gv un my ln m7 bb m8 hpm hln (xs ((4 * q) + 1)) (xs ((4 * q) + 2))) (cwV 2 hts gL_law_X9_byteOf rfl rfl rfl (by decide +kernel) ⟨Nat.le_of_ble_eq_true rfl, Nat.le_of_ble_eq_true rfl⟩) (ah_preV hE hR hS my rfl) rfl rfl hl.1 rfl (lv_room (Nat.le_of_ble_eq_true rfl)) dL_law_361 ⟨show (cells + 1) + 0 ≤ room_1.cells by omega, show (slots + 6) + 0 ≤ room_1.slots by omega⟩) hS (fun r_3 h_1 H locs p_2 hR hS => ?_)
  obtain ⟨kk, fo9, ek, hk2, tw9, fO9, eq9⟩ := st_byteOf T M B O p1 p_2
  subst ek
  obtain ⟨A9, n9, rf9, pm9, zh9, lc9, c9, pt9, gv9, un9, fy9⟩ := tw9.fy
  refine lv_istore (lv' := [(6, .int r_3), (5, .int (nI kk)), (4, .int (nI (4 * q))), (0, .ref b), (1, .ref x), (2, .ref y), (3, .ref o)]) hx hb dL_law_364 hl (by decide) rfl (fun ls hl => ?_)
  refine lv_aload_n hx hb dL_law_366 rfl (lv_at hl 5 rfl) ?_
  refine ah_calli (va_runV (As := []) (rest := []) ⟨hx, hb, hml, hown, hts⟩ (c_m_thrown l G h_1 y A9 kk n9 rf9 pm9 zh9 lc9 c9 pt9 gv9 un9 fy9) (cwV 0 hts gL_law_X9_thrown rfl rfl rfl (by decide +kernel) ⟨Nat.le_of_ble_eq_true rfl, Nat.le_of_ble_eq_true rfl⟩) (ah_preV hE hR hS fy9 rfl) rfl rfl hl.1 rfl (lv_room (Nat.le_of_ble_eq_true rfl)) dL_law_367 ⟨show (cells + 1) + 0 ≤ room_1.cells by omega, show (slots + 6) + 0 ≤ room_1.slots by omega⟩) hS (fun r_6 h_4 H locs p_5 hR hS => ?_)
  obtain ⟨e_7, e_8⟩ := p_5
  rw [e_8] at hR
  refine ah_toi e_7 ?_
  refine lv_iload hx hb dL_law_370 (lv_at hl 1 rfl) ?_
  refine lv_icmp_eq (tgt := 377) hx hb dL_law_372 (by decide) (fun c_9 => ?_) (fun c_9 => ?_)
  · skip
    have c_9 : kk = kk := (nI_eq (by omega) (by omega)).mp c_9
    refine lv_iload hx hb dL_law_377 (lv_at hl 1 rfl) ?_
    refine lv_if_ne (tgt := 394) hx hb dL_law_379 (by decide) (fun c_10 => ?_) (fun c_10 => ?_)
    · skip
      have c_10 : ¬ (kk = 0) := fun z9 => c_10 ((zi_eq (by omega)).mpr z9)
      refine lv_goto (tgt := 850) hx hb dL_law_394 (by decide) ?_
      refine W.widen (k := cells + 20) (n := slots + 1200) (by omega) (by omega) ?_
      exact K _ _ _ _ _ ls tw9 fO9 hR hS (lv_sub hl [2, 3, 4, 5, 6] rfl)
    · skip
      have c_10 : kk = 0 := (zi_eq (by omega)).mp c_10
      refine lv_aload_n hx hb dL_law_382 rfl (lv_at hl 6 rfl) ?_
      refine lv_iconst (v := nI 0) hx hb dL_law_383 (by decide) ?_
      refine ah_lald (i := 0) (t := 12) (n := 1) hx hb hE hR fO9 (by decide) (by decide) dL_law_384 ?_
      refine lv_iload hx hb dL_law_385 (lv_at hl 0 rfl) ?_
      refine lv_i2l (v := (r_3).toInt64) hx hb dL_law_387 rfl ?_
      refine W.lcmp hx hb dL_law_388 ?_
      refine ah_toi (v := nI 0) (by rw [eq9 c_10]; exact lg_0 _) ?_
      refine lv_if_eq (tgt := 394) hx hb dL_law_389 (by decide) (fun c_11 => ?_) (fun c_11 => ?_)
      · skip
        refine lv_goto (tgt := 850) hx hb dL_law_394 (by decide) ?_
        refine W.widen (k := cells + 20) (n := slots + 1200) (by omega) (by omega) ?_
        exact K _ _ _ _ _ ls tw9 fO9 hR hS (lv_sub hl [2, 3, 4, 5, 6] rfl)
      · skip
        exact absurd (by decide) c_11
  · skip
    have c_9 : ¬ (kk = kk) := fun z9 => c_9 ((nI_eq (by omega) (by omega)).mpr z9)
    exact absurd rfl c_9

set_option maxHeartbeats 4000000 in
set_option maxRecDepth 100000 in
theorem law_take {p : Program} {l : Launch} {e : Env} {s : State} {m : MethodId} {below : List Frame} {meth : Method} {cd9 : Code} {Q : State → Prop} {b L : Nat} {xs : Nat → Int32} {G : ah_G} {x y o q cells slots : Nat} (C : lwC p l s m cd9 b L xs G) (hL : L ≤ 2048) (hq : 4 * q + 4 ≤ L) (hcells : cells + 20 ≤ room_1.cells) (hslots : slots + 1200 ≤ room_1.slots) (K : lwK p l e s m below meth cd9 Q b G x y o q cells slots) {k0 : Nat} {fo : Nat → Int64} {h : ah_H} {H : Heap} {locs : List Loc} {ls : Array Slot} (htw : tw G h x y q k0) (O : h o = some (oC G fo)) (hR : ah_R G h H) (hS : va_S (ah_A G) s.heap H locs) (hl : lv_has ls 7 [(4, .int (nI (4 * q))), (0, .ref b), (1, .ref x), (2, .ref y), (3, .ref o)]) : W p l e room_1 s m #[Value.ref b] below meth cd9 H locs cells slots Q (F0 m 397 ls []) := by
  obtain ⟨hx, hb, hml, hown, hts, hXs, hbl, hbA, hE, hX, hN, hlt⟩ := C
  obtain ⟨n, pm, zh, rf, c, pt, lc, gv, un, f, z, g, gh, D, lat, A, ln, bb, hh, la, mp, sd, rc, pr, th, sm, pc, pu, pa, ua, T, M, B⟩ := htw
  obtain ⟨⟨vs, fx⟩, hn, hf, hpm, hz, hzh, hgh, hrf, hc, hDB⟩ := T.facts
  have hB := B
  obtain ⟨bn, bp, b3, b4, b5, b6, b7, b8, b9⟩ := hB
  have hln : ∀ j, j < pm → ln j ≤ 142 := fun j hj => by rw [(b3 j hj).1]; exact (hz j hj).1
  have hbb : ∀ j, j < pm → ∀ k, k < ln j → bb (142 * j + k) < 256 := fun j hj k hk => by rw [(b3 j hj).2 k (by rw [← (b3 j hj).1]; exact hk)]; exact (hz j hj).2 k
  refine lv_aload_n hx hb dL_law_397 rfl (lv_at hl 2 rfl) ?_
  refine lv_aload_n hx hb dL_law_398 rfl (lv_at hl 1 rfl) ?_
  refine lv_iload hx hb dL_law_399 (lv_at hl 0 rfl) ?_
  refine lv_iconst (v := nI 1) hx hb dL_law_401 (by decide) ?_
  refine lv_iadd hx hb dL_law_402 ?_
  refine ah_toi (v := nI ((4 * q) + 1)) (nI_add _ _) ?_
  refine va_sld (i := nI ((4 * q) + 1)) hx hb hXs hbl hbA hS (vp_in_nI (by omega) (by omega)) dL_law_403 ?_
  refine ah_toi (v := xs ((4 * q) + 1)) (by rw [nI_clamp (by omega)]) ?_
  refine lv_aload_n hx hb dL_law_404 rfl (lv_at hl 1 rfl) ?_
  refine lv_iload hx hb dL_law_405 (lv_at hl 0 rfl) ?_
  refine lv_iconst (v := nI 2) hx hb dL_law_407 (by decide) ?_
  refine lv_iadd hx hb dL_law_408 ?_
  refine ah_toi (v := nI ((4 * q) + 2)) (nI_add _ _) ?_
  refine va_sld (i := nI ((4 * q) + 2)) hx hb hXs hbl hbA hS (vp_in_nI (by omega) (by omega)) dL_law_409 ?_
  refine ah_toi (v := xs ((4 * q) + 2)) (by rw [nI_clamp (by omega)]) ?_
  refine lv_aload_n hx hb dL_law_410 rfl (lv_at hl 4 rfl) ?_
  refine ah_calli (vx_runSW (As := [.ref x, .int (xs ((4 * q) + 1)), .int (xs ((4 * q) + 2)), .ref o]) (rest := []) ⟨hx, hb, hml, hown, hts⟩ (c_L_take l G h x o (xs ((4 * q) + 1)) (xs ((4 * q) + 2)) fx O (c_take l hlt G h x n pm zh rf c pt f z g gh D lat T (by omega) (xs ((4 * q) + 1)) (xs ((4 * q) + 2))) (fun w9 h9 z9 => hp_o ((pa_take (G := G) (h := h) (x := x) (n := n) (pm := pm) (zh := zh) (rf := rf) (c := c) (pt := pt) (f := f) (z := z) (g := g) (gh := gh) (D := D) (lat := lat)) w9 h9 z9) O) (fun E h9 z9 => z9.1)) (vx_cwSW 4 hts gL_law_L_take rfl rfl rfl (by decide +kernel) ⟨Nat.le_of_ble_eq_true rfl, Nat.le_of_ble_eq_true rfl⟩) (ah_preH hE hX hN hR hS) rfl rfl hl.1 rfl (lv_room (Nat.le_of_ble_eq_true rfl)) dL_law_411 ⟨show cells + 4 ≤ room_1.cells by omega, show slots + 422 ≤ room_1.slots by omega⟩) hS (fun r1 h1 H locs p1 hR hS => ?_)
  have a1 := hp_ag (pa_take (G := G) (h := h) (x := x) (n := n) (pm := pm) (zh := zh) (rf := rf) (c := c) (pt := pt) (f := f) (z := z) (g := g) (gh := gh) (D := D) (lat := lat)) (fun E h9 z9 => z9.2.2) O p1
  obtain ⟨my, m1, m2, m4, m7, m8, m10, m12, m14, m15, m16, m17, m18, m19, m21, m22, m24, m26⟩ := md_after M a1
  refine lv_istore (lv' := [(5, .int r1), (4, .int (nI (4 * q))), (0, .ref b), (1, .ref x), (2, .ref y), (3, .ref o)]) hx hb dL_law_414 hl (by decide) rfl (fun ls hl => ?_)
  refine lv_aload_n hx hb dL_law_416 rfl (lv_at hl 4 rfl) ?_
  refine lv_aload_n hx hb dL_law_417 rfl (lv_at hl 2 rfl) ?_
  refine lv_iload hx hb dL_law_418 (lv_at hl 1 rfl) ?_
  refine lv_iconst (v := nI 1) hx hb dL_law_420 (by decide) ?_
  refine lv_iadd hx hb dL_law_421 ?_
  refine ah_toi (v := nI ((4 * q) + 1)) (nI_add _ _) ?_
  refine va_sld (i := nI ((4 * q) + 1)) hx hb hXs hbl hbA hS (vp_in_nI (by omega) (by omega)) dL_law_422 ?_
  refine ah_toi (v := xs ((4 * q) + 1)) (by rw [nI_clamp (by omega)]) ?_
  refine lv_aload_n hx hb dL_law_423 rfl (lv_at hl 2 rfl) ?_
  refine lv_iload hx hb dL_law_424 (lv_at hl 1 rfl) ?_
  refine lv_iconst (v := nI 2) hx hb dL_law_426 (by decide) ?_
  refine lv_iadd hx hb dL_law_427 ?_
  refine ah_toi (v := nI ((4 * q) + 2)) (nI_add _ _) ?_
  refine va_sld (i := nI ((4 * q) + 2)) hx hb hXs hbl hbA hS (vp_in_nI (by omega) (by omega)) dL_law_428 ?_
  refine ah_toi (v := xs ((4 * q) + 2)) (by rw [nI_clamp (by omega)]) ?_
  refine ah_calli (va_runV (As := [.int (xs ((4 * q) + 1)), .int (xs ((4 * q) + 2))]) (rest := []) ⟨hx, hb, hml, hown, hts⟩ (c_m_take l G h1 y A k0 n rf pm zh lc c pt gv un my m1 m2 la m12 mp m14 sd m15 rc m16 pr m17 th m18 sm m19 pc m21 pu m22 pa m24 ua m26 ln m7 bb m8 b6 hc D b7 hDB b8 (by omega) hpm hln hbb (xs ((4 * q) + 1)) (xs ((4 * q) + 2))) (cwV 2 hts gL_law_X9_take rfl rfl rfl (by decide +kernel) ⟨Nat.le_of_ble_eq_true rfl, Nat.le_of_ble_eq_true rfl⟩) (ah_preV hE hR hS my rfl) rfl rfl hl.1 rfl (lv_room (Nat.le_of_ble_eq_true rfl)) dL_law_429 ⟨show (cells + 4) + 0 ≤ room_1.cells by omega, show (slots + 422) + 0 ≤ room_1.slots by omega⟩) hS (fun r_3 h_1 H locs p_2 hR hS => ?_)
  obtain ⟨kk, fo9, ek, hk2, tw9, fO9, eq9⟩ := st_take T M B O p1 p_2
  subst ek
  obtain ⟨A9, n9, rf9, pm9, zh9, lc9, c9, pt9, gv9, un9, fy9⟩ := tw9.fy
  refine lv_istore (lv' := [(6, .int r_3), (5, .int (nI kk)), (4, .int (nI (4 * q))), (0, .ref b), (1, .ref x), (2, .ref y), (3, .ref o)]) hx hb dL_law_432 hl (by decide) rfl (fun ls hl => ?_)
  refine lv_aload_n hx hb dL_law_434 rfl (lv_at hl 5 rfl) ?_
  refine ah_calli (va_runV (As := []) (rest := []) ⟨hx, hb, hml, hown, hts⟩ (c_m_thrown l G h_1 y A9 kk n9 rf9 pm9 zh9 lc9 c9 pt9 gv9 un9 fy9) (cwV 0 hts gL_law_X9_thrown rfl rfl rfl (by decide +kernel) ⟨Nat.le_of_ble_eq_true rfl, Nat.le_of_ble_eq_true rfl⟩) (ah_preV hE hR hS fy9 rfl) rfl rfl hl.1 rfl (lv_room (Nat.le_of_ble_eq_true rfl)) dL_law_435 ⟨show (cells + 4) + 0 ≤ room_1.cells by omega, show (slots + 422) + 0 ≤ room_1.slots by omega⟩) hS (fun r_6 h_4 H locs p_5 hR hS => ?_)
  obtain ⟨e_7, e_8⟩ := p_5
  rw [e_8] at hR
  refine ah_toi e_7 ?_
  refine lv_iload hx hb dL_law_438 (lv_at hl 1 rfl) ?_
  refine lv_icmp_eq (tgt := 445) hx hb dL_law_440 (by decide) (fun c_9 => ?_) (fun c_9 => ?_)
  · skip
    have c_9 : kk = kk := (nI_eq (by omega) (by omega)).mp c_9
    refine lv_iload hx hb dL_law_445 (lv_at hl 1 rfl) ?_
    refine lv_if_ne (tgt := 462) hx hb dL_law_447 (by decide) (fun c_10 => ?_) (fun c_10 => ?_)
    · skip
      have c_10 : ¬ (kk = 0) := fun z9 => c_10 ((zi_eq (by omega)).mpr z9)
      refine lv_goto (tgt := 850) hx hb dL_law_462 (by decide) ?_
      refine W.widen (k := cells + 20) (n := slots + 1200) (by omega) (by omega) ?_
      exact K _ _ _ _ _ ls tw9 fO9 hR hS (lv_sub hl [2, 3, 4, 5, 6] rfl)
    · skip
      have c_10 : kk = 0 := (zi_eq (by omega)).mp c_10
      refine lv_aload_n hx hb dL_law_450 rfl (lv_at hl 6 rfl) ?_
      refine lv_iconst (v := nI 0) hx hb dL_law_451 (by decide) ?_
      refine ah_lald (i := 0) (t := 12) (n := 1) hx hb hE hR fO9 (by decide) (by decide) dL_law_452 ?_
      refine lv_iload hx hb dL_law_453 (lv_at hl 0 rfl) ?_
      refine lv_i2l (v := (r_3).toInt64) hx hb dL_law_455 rfl ?_
      refine W.lcmp hx hb dL_law_456 ?_
      refine ah_toi (v := nI 0) (by rw [eq9 c_10]; exact lg_0 _) ?_
      refine lv_if_eq (tgt := 462) hx hb dL_law_457 (by decide) (fun c_11 => ?_) (fun c_11 => ?_)
      · skip
        refine lv_goto (tgt := 850) hx hb dL_law_462 (by decide) ?_
        refine W.widen (k := cells + 20) (n := slots + 1200) (by omega) (by omega) ?_
        exact K _ _ _ _ _ ls tw9 fO9 hR hS (lv_sub hl [2, 3, 4, 5, 6] rfl)
      · skip
        exact absurd (by decide) c_11
  · skip
    have c_9 : ¬ (kk = kk) := fun z9 => c_9 ((nI_eq (by omega) (by omega)).mpr z9)
    exact absurd rfl c_9

set_option maxHeartbeats 4000000 in
set_option maxRecDepth 100000 in
theorem law_alter {p : Program} {l : Launch} {e : Env} {s : State} {m : MethodId} {below : List Frame} {meth : Method} {cd9 : Code} {Q : State → Prop} {b L : Nat} {xs : Nat → Int32} {G : ah_G} {x y o q cells slots : Nat} (C : lwC p l s m cd9 b L xs G) (hL : L ≤ 2048) (hq : 4 * q + 4 ≤ L) (hcells : cells + 20 ≤ room_1.cells) (hslots : slots + 1200 ≤ room_1.slots) (K : lwK p l e s m below meth cd9 Q b G x y o q cells slots) {k0 : Nat} {fo : Nat → Int64} {h : ah_H} {H : Heap} {locs : List Loc} {ls : Array Slot} (htw : tw G h x y q k0) (O : h o = some (oC G fo)) (hR : ah_R G h H) (hS : va_S (ah_A G) s.heap H locs) (hl : lv_has ls 7 [(4, .int (nI (4 * q))), (0, .ref b), (1, .ref x), (2, .ref y), (3, .ref o)]) : W p l e room_1 s m #[Value.ref b] below meth cd9 H locs cells slots Q (F0 m 465 ls []) := by
  obtain ⟨hx, hb, hml, hown, hts, hXs, hbl, hbA, hE, hX, hN, hlt⟩ := C
  obtain ⟨n, pm, zh, rf, c, pt, lc, gv, un, f, z, g, gh, D, lat, A, ln, bb, hh, la, mp, sd, rc, pr, th, sm, pc, pu, pa, ua, T, M, B⟩ := htw
  obtain ⟨⟨vs, fx⟩, hn, hf, hpm, hz, hzh, hgh, hrf, hc, hDB⟩ := T.facts
  have hB := B
  obtain ⟨bn, bp, b3, b4, b5, b6, b7, b8, b9⟩ := hB
  have hln : ∀ j, j < pm → ln j ≤ 142 := fun j hj => by rw [(b3 j hj).1]; exact (hz j hj).1
  have hbb : ∀ j, j < pm → ∀ k, k < ln j → bb (142 * j + k) < 256 := fun j hj k hk => by rw [(b3 j hj).2 k (by rw [← (b3 j hj).1]; exact hk)]; exact (hz j hj).2 k
  refine lv_aload_n hx hb dL_law_465 rfl (lv_at hl 2 rfl) ?_
  refine lv_aload_n hx hb dL_law_466 rfl (lv_at hl 1 rfl) ?_
  refine lv_iload hx hb dL_law_467 (lv_at hl 0 rfl) ?_
  refine lv_iconst (v := nI 1) hx hb dL_law_469 (by decide) ?_
  refine lv_iadd hx hb dL_law_470 ?_
  refine ah_toi (v := nI ((4 * q) + 1)) (nI_add _ _) ?_
  refine va_sld (i := nI ((4 * q) + 1)) hx hb hXs hbl hbA hS (vp_in_nI (by omega) (by omega)) dL_law_471 ?_
  refine ah_toi (v := xs ((4 * q) + 1)) (by rw [nI_clamp (by omega)]) ?_
  refine lv_aload_n hx hb dL_law_472 rfl (lv_at hl 1 rfl) ?_
  refine lv_iload hx hb dL_law_473 (lv_at hl 0 rfl) ?_
  refine lv_iconst (v := nI 2) hx hb dL_law_475 (by decide) ?_
  refine lv_iadd hx hb dL_law_476 ?_
  refine ah_toi (v := nI ((4 * q) + 2)) (nI_add _ _) ?_
  refine va_sld (i := nI ((4 * q) + 2)) hx hb hXs hbl hbA hS (vp_in_nI (by omega) (by omega)) dL_law_477 ?_
  refine ah_toi (v := xs ((4 * q) + 2)) (by rw [nI_clamp (by omega)]) ?_
  refine lv_aload_n hx hb dL_law_478 rfl (lv_at hl 1 rfl) ?_
  refine lv_iload hx hb dL_law_479 (lv_at hl 0 rfl) ?_
  refine lv_iconst (v := nI 3) hx hb dL_law_481 (by decide) ?_
  refine lv_iadd hx hb dL_law_482 ?_
  refine ah_toi (v := nI ((4 * q) + 3)) (nI_add _ _) ?_
  refine va_sld (i := nI ((4 * q) + 3)) hx hb hXs hbl hbA hS (vp_in_nI (by omega) (by omega)) dL_law_483 ?_
  refine ah_toi (v := xs ((4 * q) + 3)) (by rw [nI_clamp (by omega)]) ?_
  refine lv_aload_n hx hb dL_law_484 rfl (lv_at hl 4 rfl) ?_
  refine ah_calli (vx_runSW (As := [.ref x, .int (xs ((4 * q) + 1)), .int (xs ((4 * q) + 2)), .int (xs ((4 * q) + 3)), .ref o]) (rest := []) ⟨hx, hb, hml, hown, hts⟩ (c_L_alter l G h x o (xs ((4 * q) + 1)) (xs ((4 * q) + 2)) (xs ((4 * q) + 3)) fx O (c_alter l hlt G h x n pm zh rf c pt f z g gh D lat T (xs ((4 * q) + 1)) (xs ((4 * q) + 2)) (xs ((4 * q) + 3))) (fun w9 h9 z9 => hp_o ((pa_alter (G := G) (h := h) (x := x) (n := n) (pm := pm) (zh := zh) (rf := rf) (c := c) (pt := pt) (f := f) (z := z) (g := g) (gh := gh) (D := D) (lat := lat)) w9 h9 z9) O) (fun E h9 z9 => z9.1)) (vx_cwSW 5 hts gL_law_L_alter rfl rfl rfl (by decide +kernel) ⟨Nat.le_of_ble_eq_true rfl, Nat.le_of_ble_eq_true rfl⟩) (ah_preH hE hX hN hR hS) rfl rfl hl.1 rfl (lv_room (Nat.le_of_ble_eq_true rfl)) dL_law_485 ⟨show cells + 1 ≤ room_1.cells by omega, show slots + 6 ≤ room_1.slots by omega⟩) hS (fun r1 h1 H locs p1 hR hS => ?_)
  have a1 := hp_ag (pa_alter (G := G) (h := h) (x := x) (n := n) (pm := pm) (zh := zh) (rf := rf) (c := c) (pt := pt) (f := f) (z := z) (g := g) (gh := gh) (D := D) (lat := lat)) (fun E h9 z9 => z9.2.2) O p1
  obtain ⟨my, m1, m2, m4, m7, m8, m10, m12, m14, m15, m16, m17, m18, m19, m21, m22, m24, m26⟩ := md_after M a1
  refine lv_istore (lv' := [(5, .int r1), (4, .int (nI (4 * q))), (0, .ref b), (1, .ref x), (2, .ref y), (3, .ref o)]) hx hb dL_law_488 hl (by decide) rfl (fun ls hl => ?_)
  refine lv_aload_n hx hb dL_law_490 rfl (lv_at hl 4 rfl) ?_
  refine lv_aload_n hx hb dL_law_491 rfl (lv_at hl 2 rfl) ?_
  refine lv_iload hx hb dL_law_492 (lv_at hl 1 rfl) ?_
  refine lv_iconst (v := nI 1) hx hb dL_law_494 (by decide) ?_
  refine lv_iadd hx hb dL_law_495 ?_
  refine ah_toi (v := nI ((4 * q) + 1)) (nI_add _ _) ?_
  refine va_sld (i := nI ((4 * q) + 1)) hx hb hXs hbl hbA hS (vp_in_nI (by omega) (by omega)) dL_law_496 ?_
  refine ah_toi (v := xs ((4 * q) + 1)) (by rw [nI_clamp (by omega)]) ?_
  refine lv_aload_n hx hb dL_law_497 rfl (lv_at hl 2 rfl) ?_
  refine lv_iload hx hb dL_law_498 (lv_at hl 1 rfl) ?_
  refine lv_iconst (v := nI 2) hx hb dL_law_500 (by decide) ?_
  refine lv_iadd hx hb dL_law_501 ?_
  refine ah_toi (v := nI ((4 * q) + 2)) (nI_add _ _) ?_
  refine va_sld (i := nI ((4 * q) + 2)) hx hb hXs hbl hbA hS (vp_in_nI (by omega) (by omega)) dL_law_502 ?_
  refine ah_toi (v := xs ((4 * q) + 2)) (by rw [nI_clamp (by omega)]) ?_
  refine lv_aload_n hx hb dL_law_503 rfl (lv_at hl 2 rfl) ?_
  refine lv_iload hx hb dL_law_504 (lv_at hl 1 rfl) ?_
  refine lv_iconst (v := nI 3) hx hb dL_law_506 (by decide) ?_
  refine lv_iadd hx hb dL_law_507 ?_
  refine ah_toi (v := nI ((4 * q) + 3)) (nI_add _ _) ?_
  refine va_sld (i := nI ((4 * q) + 3)) hx hb hXs hbl hbA hS (vp_in_nI (by omega) (by omega)) dL_law_508 ?_
  refine ah_toi (v := xs ((4 * q) + 3)) (by rw [nI_clamp (by omega)]) ?_
  refine ah_calli (va_runV (As := [.int (xs ((4 * q) + 1)), .int (xs ((4 * q) + 2)), .int (xs ((4 * q) + 3))]) (rest := []) ⟨hx, hb, hml, hown, hts⟩ (c_m_alter l G h1 y A k0 n rf pm zh lc c pt gv un my ln m7 bb m8 hpm hln (xs ((4 * q) + 1)) (xs ((4 * q) + 2)) (xs ((4 * q) + 3))) (cwV 3 hts gL_law_X9_alter rfl rfl rfl (by decide +kernel) ⟨Nat.le_of_ble_eq_true rfl, Nat.le_of_ble_eq_true rfl⟩) (ah_preV hE hR hS my rfl) rfl rfl hl.1 rfl (lv_room (Nat.le_of_ble_eq_true rfl)) dL_law_509 ⟨show (cells + 1) + 0 ≤ room_1.cells by omega, show (slots + 6) + 0 ≤ room_1.slots by omega⟩) hS (fun r_3 h_1 H locs p_2 hR hS => ?_)
  obtain ⟨kk, fo9, ek, hk2, tw9, fO9, eq9⟩ := st_alter T M B O p1 p_2
  subst ek
  obtain ⟨A9, n9, rf9, pm9, zh9, lc9, c9, pt9, gv9, un9, fy9⟩ := tw9.fy
  refine lv_istore (lv' := [(6, .int r_3), (5, .int (nI kk)), (4, .int (nI (4 * q))), (0, .ref b), (1, .ref x), (2, .ref y), (3, .ref o)]) hx hb dL_law_512 hl (by decide) rfl (fun ls hl => ?_)
  refine lv_aload_n hx hb dL_law_514 rfl (lv_at hl 5 rfl) ?_
  refine ah_calli (va_runV (As := []) (rest := []) ⟨hx, hb, hml, hown, hts⟩ (c_m_thrown l G h_1 y A9 kk n9 rf9 pm9 zh9 lc9 c9 pt9 gv9 un9 fy9) (cwV 0 hts gL_law_X9_thrown rfl rfl rfl (by decide +kernel) ⟨Nat.le_of_ble_eq_true rfl, Nat.le_of_ble_eq_true rfl⟩) (ah_preV hE hR hS fy9 rfl) rfl rfl hl.1 rfl (lv_room (Nat.le_of_ble_eq_true rfl)) dL_law_515 ⟨show (cells + 1) + 0 ≤ room_1.cells by omega, show (slots + 6) + 0 ≤ room_1.slots by omega⟩) hS (fun r_6 h_4 H locs p_5 hR hS => ?_)
  obtain ⟨e_7, e_8⟩ := p_5
  rw [e_8] at hR
  refine ah_toi e_7 ?_
  refine lv_iload hx hb dL_law_518 (lv_at hl 1 rfl) ?_
  refine lv_icmp_eq (tgt := 525) hx hb dL_law_520 (by decide) (fun c_9 => ?_) (fun c_9 => ?_)
  · skip
    have c_9 : kk = kk := (nI_eq (by omega) (by omega)).mp c_9
    refine lv_iload hx hb dL_law_525 (lv_at hl 1 rfl) ?_
    refine lv_if_ne (tgt := 542) hx hb dL_law_527 (by decide) (fun c_10 => ?_) (fun c_10 => ?_)
    · skip
      have c_10 : ¬ (kk = 0) := fun z9 => c_10 ((zi_eq (by omega)).mpr z9)
      refine lv_goto (tgt := 850) hx hb dL_law_542 (by decide) ?_
      refine W.widen (k := cells + 20) (n := slots + 1200) (by omega) (by omega) ?_
      exact K _ _ _ _ _ ls tw9 fO9 hR hS (lv_sub hl [2, 3, 4, 5, 6] rfl)
    · skip
      have c_10 : kk = 0 := (zi_eq (by omega)).mp c_10
      refine lv_aload_n hx hb dL_law_530 rfl (lv_at hl 6 rfl) ?_
      refine lv_iconst (v := nI 0) hx hb dL_law_531 (by decide) ?_
      refine ah_lald (i := 0) (t := 12) (n := 1) hx hb hE hR fO9 (by decide) (by decide) dL_law_532 ?_
      refine lv_iload hx hb dL_law_533 (lv_at hl 0 rfl) ?_
      refine lv_i2l (v := (r_3).toInt64) hx hb dL_law_535 rfl ?_
      refine W.lcmp hx hb dL_law_536 ?_
      refine ah_toi (v := nI 0) (by rw [eq9 c_10]; exact lg_0 _) ?_
      refine lv_if_eq (tgt := 542) hx hb dL_law_537 (by decide) (fun c_11 => ?_) (fun c_11 => ?_)
      · skip
        refine lv_goto (tgt := 850) hx hb dL_law_542 (by decide) ?_
        refine W.widen (k := cells + 20) (n := slots + 1200) (by omega) (by omega) ?_
        exact K _ _ _ _ _ ls tw9 fO9 hR hS (lv_sub hl [2, 3, 4, 5, 6] rfl)
      · skip
        exact absurd (by decide) c_11
  · skip
    have c_9 : ¬ (kk = kk) := fun z9 => c_9 ((nI_eq (by omega) (by omega)).mpr z9)
    exact absurd rfl c_9
