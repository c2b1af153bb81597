/-! ===== the law: a case of its switch, a theorem ===== -/
theorem lg_0 (x : Int64) : lg_cmp x x = nI 0 := by
  unfold lg_cmp
  rw [if_neg (fun h : x > x => Int64.lt_irrefl h), if_pos rfl]; rfl
theorem short_gt {L : Nat} (h : L < 4) : nI L - nI 4 < nI 0 := by
  rcases (show L = 0 ∨ L = 1 ∨ L = 2 ∨ L = 3 by omega) with rfl | rfl | rfl | rfl <;> decide +kernel
theorem and15 (v : Int32) : ∃ k, k < 16 ∧ v &&& nI 15 = nI k := by
  refine ⟨v.toBitVec.toNat &&& 15, Nat.lt_succ_of_le Nat.and_le_right, ?_⟩
  apply Int32.toBitVec_inj.1
  show v.toBitVec &&& BitVec.ofNat 32 15 = BitVec.ofNat 32 (v.toBitVec.toNat &&& 15)
  apply BitVec.eq_of_toNat_eq
  have h1 : v.toBitVec.toNat &&& 15 ≤ 15 := Nat.and_le_right
  rw [BitVec.toNat_and, BitVec.toNat_ofNat, BitVec.toNat_ofNat, Nat.mod_eq_of_lt (show 15 < 2 ^ 32 by decide), Nat.mod_eq_of_lt (show v.toBitVec.toNat &&& 15 < 2 ^ 32 by omega)]
theorem wL91 : Cond.constantLong RL 91 (4294967295) ∈ wsL_law := List.mem_of_getElem? (i := 7) rfl
theorem hp_ag {G : ah_G} {h h1 : ah_H} {o : Nat} {fo : Nat → Int64} {post : Int32 → ah_H → Prop} {px : String → ah_H → Prop} {v : Int32} (pa : ∀ w h9, post w h9 → agr (fun t => ¬ cT t) h h9) (px0 : ∀ E h9, px E h9 → h9 = h) (O : h o = some (oC G fo)) (p : hpost G o fo post px v h1) : agr (fun t => ¬ cT t ∧ t ≠ 12) h h1 := by
  rcases p with ⟨-, w, h0, z, e⟩ | ⟨E, z, -⟩
  · have a := pa w h0 z
    subst e
    exact (a.weak (fun t q => q.1)).up (a _ _ _ (by unfold cT; omega) O) (fun q => q.2 rfl)
  · rw [px0 E h1 z]; exact agr.rf
theorem hp_o {G : ah_G} {h h9 : ah_H} {o : Nat} {fo : Nat → Int64} (a : agr (fun t => ¬ cT t) h h9) (O : h o = some (oC G fo)) : h9 o = h o := (a _ _ _ (by unfold cT; omega) O).trans O.symm
theorem tw.fy {G : ah_G} {h : ah_H} {x y q k0 : Nat} (t : tw G h x y q k0) : ∃ (A : Nat → Nat) (n rf pm zh lc c pt gv un : Nat), h y = some (20, .inr (8, mF A k0 n rf pm zh lc c pt gv un)) := by
  obtain ⟨n, pm, zh, rf, c, pt, lc, gv, un, f, z, g, gh, D, lat, A, ln, bb, hh, la, mp, sd, rc, pr, th, sm, pc, pu, pa, ua, -, M, -⟩ := t
  exact ⟨A, n, rf, pm, zh, lc, c, pt, gv, un, M.1⟩
/-- what holds all through the law's walk -/
def lwC (p : Program) (l : Launch) (s : State) (m : MethodId) (cd9 : Code) (b L : Nat) (xs : Nat → Int32) (G : ah_G) : Prop :=
  p.tables.exec = Jvm.exec ∧ cd9.code = cL_law ∧ cd9.maxLocals = 7 ∧ s.vm.findClass RL = some m.cls ∧ (∀ w ∈ wsL_law, w.before #[Value.ref b] s = true) ∧ va_X b L xs s s.heap ∧ b < s.heap.size ∧ ¬ ah_A G b ∧ ah_E G s ∧ ah_X G s ∧ va_Nc eIS eIA s ∧ l.stackTraces = false
/-- how the walk goes on behind a step -/
def lwK (p : Program) (l : Launch) (e : Env) (s : State) (m : MethodId) (below : List Frame) (meth : Method) (cd9 : Code) (Q : State → Prop) (b : Nat) (G : ah_G) (x y o q cells slots : Nat) : Prop :=
  ∀ (k0 : Nat) (fo : Nat → Int64) (h : ah_H) (H : Heap) (locs : List Loc) (ls : Array Slot), tw G h x y (q + 1) k0 → h o = some (oC G fo) → ah_R G h H → va_S (ah_A G) s.heap H locs → lv_has ls 7 [(4, .int (nI (4 * q))), (0, .ref b), (1, .ref x), (2, .ref y), (3, .ref o)] → W p l e room_1 s m #[Value.ref b] below meth cd9 H locs (cells + 20) (slots + 1200) Q (F0 m 850 ls [])

set_option maxHeartbeats 4000000 in
set_option maxRecDepth 100000 in
theorem law_put {p : Program} {l : Launch} {e : Env} {s : State} {m : MethodId} {below : List Frame} {meth : Method} {cd9 : Code} {Q : State → Prop} {b L : Nat} {xs : Nat → Int32} {G : ah_G} {x y o q cells slots : Nat} (C : lwC p l s m cd9 b L xs G) (hL : L ≤ 2048) (hq : 4 * q + 4 ≤ L) (hcells : cells + 20 ≤ room_1.cells) (hslots : slots + 1200 ≤ room_1.slots) (K : lwK p l e s m below meth cd9 Q b G x y o q cells slots) {k0 : Nat} {fo : Nat → Int64} {h : ah_H} {H : Heap} {locs : List Loc} {ls : Array Slot} (htw : tw G h x y q k0) (O : h o = some (oC G fo)) (hR : ah_R G h H) (hS : va_S (ah_A G) s.heap H locs) (hl : lv_has ls 7 [(4, .int (nI (4 * q))), (0, .ref b), (1, .ref x), (2, .ref y), (3, .ref o)]) : W p l e room_1 s m #[Value.ref b] below meth cd9 H locs cells slots Q (F0 m 104 ls []) := by
  obtain ⟨hx, hb, hml, hown, hts, hXs, hbl, hbA, hE, hX, hN, hlt⟩ := C
  obtain ⟨n, pm, zh, rf, c, pt, lc, gv, un, f, z, g, gh, D, lat, A, ln, bb, hh, la, mp, sd, rc, pr, th, sm, pc, pu, pa, ua, T, M, B⟩ := htw
  obtain ⟨⟨vs, fx⟩, hn, hf, hpm, hz, hzh, hgh, hrf, hc, hDB⟩ := T.facts
  have hB := B
  obtain ⟨bn, bp, b3, b4, b5, b6, b7, b8, b9⟩ := hB
  have hln : ∀ j, j < pm → ln j ≤ 142 := fun j hj => by rw [(b3 j hj).1]; exact (hz j hj).1
  have hbb : ∀ j, j < pm → ∀ k, k < ln j → bb (142 * j + k) < 256 := fun j hj k hk => by rw [(b3 j hj).2 k (by rw [← (b3 j hj).1]; exact hk)]; exact (hz j hj).2 k
  refine lv_aload_n hx hb dL_law_104 rfl (lv_at hl 2 rfl) ?_
  refine lv_aload_n hx hb dL_law_105 rfl (lv_at hl 1 rfl) ?_
  refine lv_iload hx hb dL_law_106 (lv_at hl 0 rfl) ?_
  refine lv_iconst (v := nI 1) hx hb dL_law_108 (by decide) ?_
  refine lv_iadd hx hb dL_law_109 ?_
  refine ah_toi (v := nI ((4 * q) + 1)) (nI_add _ _) ?_
  refine va_sld (i := nI ((4 * q) + 1)) hx hb hXs hbl hbA hS (vp_in_nI (by omega) (by omega)) dL_law_110 ?_
  refine ah_toi (v := xs ((4 * q) + 1)) (by rw [nI_clamp (by omega)]) ?_
  refine lv_aload_n hx hb dL_law_111 rfl (lv_at hl 4 rfl) ?_
  refine ah_calli (vx_runSW (As := [.ref x, .int (xs ((4 * q) + 1)), .ref o]) (rest := []) ⟨hx, hb, hml, hown, hts⟩ (c_L_put l G h x o (xs ((4 * q) + 1)) fx O (c_put l hlt G h x n pm zh rf c pt f z g gh D lat T (xs ((4 * q) + 1))) (fun w9 h9 z9 => hp_o ((pa_put (G := G) (h := h) (x := x) (n := n) (pm := pm) (zh := zh) (rf := rf) (c := c) (pt := pt) (f := f) (z := z) (g := g) (gh := gh) (D := D) (lat := lat)) w9 h9 z9) O) (fun E h9 z9 => z9.1.elim (fun a => Or.inl a.1) (fun a => Or.inr a.1))) (vx_cwSW 3 hts gL_law_L_put rfl rfl rfl (by decide +kernel) ⟨Nat.le_of_ble_eq_true rfl, Nat.le_of_ble_eq_true rfl⟩) (ah_preH hE hX hN hR hS) rfl rfl hl.1 rfl (lv_room (Nat.le_of_ble_eq_true rfl)) dL_law_112 ⟨show cells + 1 ≤ room_1.cells by omega, show slots + 6 ≤ room_1.slots by omega⟩) hS (fun r1 h1 H locs p1 hR hS => ?_)
  have a1 := hp_ag (pa_put (G := G) (h := h) (x := x) (n := n) (pm := pm) (zh := zh) (rf := rf) (c := c) (pt := pt) (f := f) (z := z) (g := g) (gh := gh) (D := D) (lat := lat)) (fun E h9 z9 => z9.2) O p1
  obtain ⟨my, m1, m2, m4, m7, m8, m10, m12, m14, m15, m16, m17, m18, m19, m21, m22, m24, m26⟩ := md_after M a1
  refine lv_istore (lv' := [(5, .int r1), (4, .int (nI (4 * q))), (0, .ref b), (1, .ref x), (2, .ref y), (3, .ref o)]) hx hb dL_law_115 hl (by decide) rfl (fun ls hl => ?_)
  refine lv_aload_n hx hb dL_law_117 rfl (lv_at hl 4 rfl) ?_
  refine lv_aload_n hx hb dL_law_118 rfl (lv_at hl 2 rfl) ?_
  refine lv_iload hx hb dL_law_119 (lv_at hl 1 rfl) ?_
  refine lv_iconst (v := nI 1) hx hb dL_law_121 (by decide) ?_
  refine lv_iadd hx hb dL_law_122 ?_
  refine ah_toi (v := nI ((4 * q) + 1)) (nI_add _ _) ?_
  refine va_sld (i := nI ((4 * q) + 1)) hx hb hXs hbl hbA hS (vp_in_nI (by omega) (by omega)) dL_law_123 ?_
  refine ah_toi (v := xs ((4 * q) + 1)) (by rw [nI_clamp (by omega)]) ?_
  refine ah_calli (va_runV (As := [.int (xs ((4 * q) + 1))]) (rest := []) ⟨hx, hb, hml, hown, hts⟩ (c_m_put l G h1 y A k0 n rf pm zh lc c pt gv un my f m4 hn (xs ((4 * q) + 1))) (cwV 1 hts gL_law_X9_put rfl rfl rfl (by decide +kernel) ⟨Nat.le_of_ble_eq_true rfl, Nat.le_of_ble_eq_true rfl⟩) (ah_preV hE hR hS my rfl) rfl rfl hl.1 rfl (lv_room (Nat.le_of_ble_eq_true rfl)) dL_law_124 ⟨show (cells + 1) + 0 ≤ room_1.cells by omega, show (slots + 6) + 0 ≤ room_1.slots by omega⟩) hS (fun r_3 h_1 H locs p_2 hR hS => ?_)
  obtain ⟨kk, fo9, ek, hk2, tw9, fO9, eq9⟩ := st_put T M B O p1 p_2
  subst ek
  obtain ⟨A9, n9, rf9, pm9, zh9, lc9, c9, pt9, gv9, un9, fy9⟩ := tw9.fy
  refine lv_istore (lv' := [(6, .int r_3), (5, .int (nI kk)), (4, .int (nI (4 * q))), (0, .ref b), (1, .ref x), (2, .ref y), (3, .ref o)]) hx hb dL_law_127 hl (by decide) rfl (fun ls hl => ?_)
  refine lv_aload_n hx hb dL_law_129 rfl (lv_at hl 5 rfl) ?_
  refine ah_calli (va_runV (As := []) (rest := []) ⟨hx, hb, hml, hown, hts⟩ (c_m_thrown l G h_1 y A9 kk n9 rf9 pm9 zh9 lc9 c9 pt9 gv9 un9 fy9) (cwV 0 hts gL_law_X9_thrown rfl rfl rfl (by decide +kernel) ⟨Nat.le_of_ble_eq_true rfl, Nat.le_of_ble_eq_true rfl⟩) (ah_preV hE hR hS fy9 rfl) rfl rfl hl.1 rfl (lv_room (Nat.le_of_ble_eq_true rfl)) dL_law_130 ⟨show (cells + 1) + 0 ≤ room_1.cells by omega, show (slots + 6) + 0 ≤ room_1.slots by omega⟩) hS (fun r_6 h_4 H locs p_5 hR hS => ?_)
  obtain ⟨e_7, e_8⟩ := p_5
  rw [e_8] at hR
  refine ah_toi e_7 ?_
  refine lv_iload hx hb dL_law_133 (lv_at hl 1 rfl) ?_
  refine lv_icmp_eq (tgt := 140) hx hb dL_law_135 (by decide) (fun c_9 => ?_) (fun c_9 => ?_)
  · skip
    have c_9 : kk = kk := (nI_eq (by omega) (by omega)).mp c_9
    refine lv_iload hx hb dL_law_140 (lv_at hl 1 rfl) ?_
    refine lv_if_ne (tgt := 157) hx hb dL_law_142 (by decide) (fun c_10 => ?_) (fun c_10 => ?_)
    · skip
      have c_10 : ¬ (kk = 0) := fun z9 => c_10 ((zi_eq (by omega)).mpr z9)
      refine lv_goto (tgt := 850) hx hb dL_law_157 (by decide) ?_
      refine W.widen (k := cells + 20) (n := slots + 1200) (by omega) (by omega) ?_
      exact K _ _ _ _ _ ls tw9 fO9 hR hS (lv_sub hl [2, 3, 4, 5, 6] rfl)
    · skip
      have c_10 : kk = 0 := (zi_eq (by omega)).mp c_10
      refine lv_aload_n hx hb dL_law_145 rfl (lv_at hl 6 rfl) ?_
      refine lv_iconst (v := nI 0) hx hb dL_law_146 (by decide) ?_
      refine ah_lald (i := 0) (t := 12) (n := 1) hx hb hE hR fO9 (by decide) (by decide) dL_law_147 ?_
      refine lv_iload hx hb dL_law_148 (lv_at hl 0 rfl) ?_
      refine lv_i2l (v := (r_3).toInt64) hx hb dL_law_150 rfl ?_
      refine W.lcmp hx hb dL_law_151 ?_
      refine ah_toi (v := nI 0) (by rw [eq9 c_10]; exact lg_0 _) ?_
      refine lv_if_eq (tgt := 157) hx hb dL_law_152 (by decide) (fun c_11 => ?_) (fun c_11 => ?_)
      · skip
        refine lv_goto (tgt := 850) hx hb dL_law_157 (by decide) ?_
        refine W.widen (k := cells + 20) (n := slots + 1200) (by omega) (by omega) ?_
        exact K _ _ _ _ _ ls tw9 fO9 hR hS (lv_sub hl [2, 3, 4, 5, 6] rfl)
      · skip
        exact absurd (by decide) c_11
  · skip
    have c_9 : ¬ (kk = kk) := fun z9 => c_9 ((nI_eq (by omega) (by omega)).mpr z9)
    exact absurd rfl c_9

set_option maxHeartbeats 4000000 in
set_option maxRecDepth 100000 in
theorem law_clear {p : Program} {l : Launch} {e : Env} {s : State} {m : MethodId} {below : List Frame} {meth : Method} {cd9 : Code} {Q : State → Prop} {b L : Nat} {xs : Nat → Int32} {G : ah_G} {x y o q cells slots : Nat} (C : lwC p l s m cd9 b L xs G) (hL : L ≤ 2048) (hq : 4 * q + 4 ≤ L) (hcells : cells + 20 ≤ room_1.cells) (hslots : slots + 1200 ≤ room_1.slots) (K : lwK p l e s m below meth cd9 Q b G x y o q cells slots) {k0 : Nat} {fo : Nat → Int64} {h : ah_H} {H : Heap} {locs : List Loc} {ls : Array Slot} (htw : tw G h x y q k0) (O : h o = some (oC G fo)) (hR : ah_R G h H) (hS : va_S (ah_A G) s.heap H locs) (hl : lv_has ls 7 [(4, .int (nI (4 * q))), (0, .ref b), (1, .ref x), (2, .ref y), (3, .ref o)]) : W p l e room_1 s m #[Value.ref b] below meth cd9 H locs cells slots Q (F0 m 160 ls []) := by
  obtain ⟨hx, hb, hml, hown, hts, hXs, hbl, hbA, hE, hX, hN, hlt⟩ := C
  obtain ⟨n, pm, zh, rf, c, pt, lc, gv, un, f, z, g, gh, D, lat, A, ln, bb, hh, la, mp, sd, rc, pr, th, sm, pc, pu, pa, ua, T, M, B⟩ := htw
  obtain ⟨⟨vs, fx⟩, hn, hf, hpm, hz, hzh, hgh, hrf, hc, hDB⟩ := T.facts
  have hB := B
  obtain ⟨bn, bp, b3, b4, b5, b6, b7, b8, b9⟩ := hB
  have hln : ∀ j, j < pm → ln j ≤ 142 := fun j hj => by rw [(b3 j hj).1]; exact (hz j hj).1
  have hbb : ∀ j, j < pm → ∀ k, k < ln j → bb (142 * j + k) < 256 := fun j hj k hk => by rw [(b3 j hj).2 k (by rw [← (b3 j hj).1]; exact hk)]; exact (hz j hj).2 k
  refine lv_aload_n hx hb dL_law_160 rfl (lv_at hl 2 rfl) ?_
  refine ah_calli (va_runV (As := []) (rest := []) ⟨hx, hb, hml, hown, hts⟩ (c_clear l G h x n pm zh rf c pt f z g gh D lat T) (cwV 0 hts gL_law_X8_clear rfl rfl rfl (by decide +kernel) ⟨Nat.le_of_ble_eq_true rfl, Nat.le_of_ble_eq_true rfl⟩) (ah_preV hE hR hS fx rfl) rfl rfl hl.1 rfl (lv_room (Nat.le_of_ble_eq_true rfl)) dL_law_161 ⟨show (cells) + 0 ≤ room_1.cells by omega, show (slots) + 0 ≤ room_1.slots by omega⟩) hS (fun r_3 h_1 H locs p_2 hR hS => ?_)
  have p1 := p_2
  have a1 : agr (fun t => ¬ cT t ∧ t ≠ 12) h h_1 := p1.2.2.weak (fun t q => q.1)
  obtain ⟨my, m1, m2, m4, m7, m8, m10, m12, m14, m15, m16, m17, m18, m19, m21, m22, m24, m26⟩ := md_after M a1
  refine lv_aload_n hx hb dL_law_164 rfl (lv_at hl 3 rfl) ?_
  refine ah_calli (va_runV (As := []) (rest := [.int r_3]) ⟨hx, hb, hml, hown, hts⟩ (c_m_clear l G h_1 y A k0 n rf pm zh lc c pt gv un my) (cwV 0 hts gL_law_X9_clear rfl rfl rfl (by decide +kernel) ⟨Nat.le_of_ble_eq_true rfl, Nat.le_of_ble_eq_true rfl⟩) (ah_preV hE hR hS my rfl) rfl rfl hl.1 rfl (lv_room (Nat.le_of_ble_eq_true rfl)) dL_law_165 ⟨show (cells) + 0 ≤ room_1.cells by omega, show (slots) + 0 ≤ room_1.slots by omega⟩) hS (fun r_6 h_4 H locs p_5 hR hS => ?_)
  obtain ⟨er, tw9, fO9⟩ := st_clear T M B O p1 p_5
  refine lv_icmp_eq (tgt := 850) hx hb dL_law_168 (by decide) (fun c_7 => ?_) (fun c_7 => ?_)
  · skip
    refine W.widen (k := cells + 20) (n := slots + 1200) (by omega) (by omega) ?_
    exact K _ _ _ _ _ ls tw9 fO9 hR hS (lv_sub hl [0, 1, 2, 3, 4] rfl)
  · skip
    exact absurd er c_7

set_option maxHeartbeats 4000000 in
set_option maxRecDepth 100000 in
theorem law_about {p : Program} {l : Launch} {e : Env} {s : State} {m : MethodId} {below : List Frame} {meth : Method} {cd9 : Code} {Q : State → Prop} {b L : Nat} {xs : Nat → Int32} {G : ah_G} {x y o q cells slots : Nat} (C : lwC p l s m cd9 b L xs G) (hL : L ≤ 2048) (hq : 4 * q + 4 ≤ L) (hcells : cells + 20 ≤ room_1.cells) (hslots : slots + 1200 ≤ room_1.slots) (K : lwK p l e s m below meth cd9 Q b G x y o q cells slots) {k0 : Nat} {fo : Nat → Int64} {h : ah_H} {H : Heap} {locs : List Loc} {ls : Array Slot} (htw : tw G h x y q k0) (O : h o = some (oC G fo)) (hR : ah_R G h H) (hS : va_S (ah_A G) s.heap H locs) (hl : lv_has ls 7 [(4, .int (nI (4 * q))), (0, .ref b), (1, .ref x), (2, .ref y), (3, .ref o)]) : W p l e room_1 s m #[Value.ref b] below meth cd9 H locs cells slots Q (F0 m 173 ls []) := by
  obtain ⟨hx, hb, hml, hown, hts, hXs, hbl, hbA, hE, hX, hN, hlt⟩ := C
  obtain ⟨n, pm, zh, rf, c, pt, lc, gv, un, f, z, g, gh, D, lat, A, ln, bb, hh, la, mp, sd, rc, pr, th, sm, pc, pu, pa, ua, T, M, B⟩ := htw
  obtain ⟨⟨vs, fx⟩, hn, hf, hpm, hz, hzh, hgh, hrf, hc, hDB⟩ := T.facts
  have hB := B
  obtain ⟨bn, bp, b3, b4, b5, b6, b7, b8, b9⟩ := hB
  have hln : ∀ j, j < pm → ln j ≤ 142 := fun j hj => by rw [(b3 j hj).1]; exact (hz j hj).1
  have hbb : ∀ j, j < pm → ∀ k, k < ln j → bb (142 * j + k) < 256 := fun j hj k hk => by rw [(b3 j hj).2 k (by rw [← (b3 j hj).1]; exact hk)]; exact (hz j hj).2 k
  refine lv_aload_n hx hb dL_law_173 rfl (lv_at hl 2 rfl) ?_
  refine lv_aload_n hx hb dL_law_174 rfl (lv_at hl 1 rfl) ?_
  refine lv_iload hx hb dL_law_175 (lv_at hl 0 rfl) ?_
  refine lv_iconst (v := nI 1) hx hb dL_law_177 (by decide) ?_
  refine lv_iadd hx hb dL_law_178 ?_
  refine ah_toi (v := nI ((4 * q) + 1)) (nI_add _ _) ?_
  refine va_sld (i := nI ((4 * q) + 1)) hx hb hXs hbl hbA hS (vp_in_nI (by omega) (by omega)) dL_law_179 ?_
  refine ah_toi (v := xs ((4 * q) + 1)) (by rw [nI_clamp (by omega)]) ?_
  refine lv_aload_n hx hb dL_law_180 rfl (lv_at hl 4 rfl) ?_
  refine ah_calli (vx_runSW (As := [.ref x, .int (xs ((4 * q) + 1)), .ref o]) (rest := []) ⟨hx, hb, hml, hown, hts⟩ (c_L_about l G h x o (xs ((4 * q) + 1)) fx O (c_aboutA l hlt G h x n pm zh rf c pt f z g gh D lat T (xs ((4 * q) + 1))) (fun w9 h9 z9 => hp_o ((pa_about (G := G) (h := h) (x := x) (n := n) (pm := pm) (zh := zh) (rf := rf) (c := c) (pt := pt) (f := f) (z := z) (g := g) (gh := gh) (D := D) (lat := lat)) w9 h9 z9) O) (fun E h9 z9 => z9.1)) (vx_cwSW 3 hts gL_law_L_about rfl rfl rfl (by decide +kernel) ⟨Nat.le_of_ble_eq_true rfl, Nat.le_of_ble_eq_true rfl⟩) (ah_preH hE hX hN hR hS) rfl rfl hl.1 rfl (lv_room (Nat.le_of_ble_eq_true rfl)) dL_law_181 ⟨show cells + 1 ≤ room_1.cells by omega, show slots + 6 ≤ room_1.slots by omega⟩) hS (fun r1 h1 H locs p1 hR hS => ?_)
  have a1 := hp_ag (pa_about (G := G) (h := h) (x := x) (n := n) (pm := pm) (zh := zh) (rf := rf) (c := c) (pt := pt) (f := f) (z := z) (g := g) (gh := gh) (D := D) (lat := lat)) (fun E h9 z9 => z9.2.2) O p1
  obtain ⟨my, m1, m2, m4, m7, m8, m10, m12, m14, m15, m16, m17, m18, m19, m21, m22, m24, m26⟩ := md_after M a1
  refine lv_istore (lv' := [(5, .int r1), (4, .int (nI (4 * q))), (0, .ref b), (1, .ref x), (2, .ref y), (3, .ref o)]) hx hb dL_law_184 hl (by decide) rfl (fun ls hl => ?_)
  refine lv_aload_n hx hb dL_law_186 rfl (lv_at hl 4 rfl) ?_
  refine lv_aload_n hx hb dL_law_187 rfl (lv_at hl 2 rfl) ?_
  refine lv_iload hx hb dL_law_188 (lv_at hl 1 rfl) ?_
  refine lv_iconst (v := nI 1) hx hb dL_law_190 (by decide) ?_
  refine lv_iadd hx hb dL_law_191 ?_
  refine ah_toi (v := nI ((4 * q) + 1)) (nI_add _ _) ?_
  refine va_sld (i := nI ((4 * q) + 1)) hx hb hXs hbl hbA hS (vp_in_nI (by omega) (by omega)) dL_law_192 ?_
  refine ah_toi (v := xs ((4 * q) + 1)) (by rw [nI_clamp (by omega)]) ?_
  refine ah_calli (va_runV (As := [.int (xs ((4 * q) + 1))]) (rest := []) ⟨hx, hb, hml, hown, hts⟩ (c_m_aboutA l G h1 y A k0 n rf pm zh lc c pt gv un my m1 m2 f m4 hn hf (xs ((4 * q) + 1))) (cwV 1 hts gL_law_X9_about rfl rfl rfl (by decide +kernel) ⟨Nat.le_of_ble_eq_true rfl, Nat.le_of_ble_eq_true rfl⟩) (ah_preV hE hR hS my rfl) rfl rfl hl.1 rfl (lv_room (Nat.le_of_ble_eq_true rfl)) dL_law_193 ⟨show (cells + 1) + 0 ≤ room_1.cells by omega, show (slots + 6) + 0 ≤ room_1.slots by omega⟩) hS (fun r_3 h_1 H locs p_2 hR hS => ?_)
  obtain ⟨kk, fo9, ek, hk2, tw9, fO9, eq9⟩ := st_about T M B O p1 p_2
  subst ek
  obtain ⟨A9, n9, rf9, pm9, zh9, lc9, c9, pt9, gv9, un9, fy9⟩ := tw9.fy
  refine lv_istore (lv' := [(6, .int r_3), (5, .int (nI kk)), (4, .int (nI (4 * q))), (0, .ref b), (1, .ref x), (2, .ref y), (3, .ref o)]) hx hb dL_law_196 hl (by decide) rfl (fun ls hl => ?_)
  refine lv_aload_n hx hb dL_law_198 rfl (lv_at hl 5 rfl) ?_
  refine ah_calli (va_runV (As := []) (rest := []) ⟨hx, hb, hml, hown, hts⟩ (c_m_thrown l G h_1 y A9 kk n9 rf9 pm9 zh9 lc9 c9 pt9 gv9 un9 fy9) (cwV 0 hts gL_law_X9_thrown rfl rfl rfl (by decide +kernel) ⟨Nat.le_of_ble_eq_true rfl, Nat.le_of_ble_eq_true rfl⟩) (ah_preV hE hR hS fy9 rfl) rfl rfl hl.1 rfl (lv_room (Nat.le_of_ble_eq_true rfl)) dL_law_199 ⟨show (cells + 1) + 0 ≤ room_1.cells by omega, show (slots + 6) + 0 ≤ room_1.slots by omega⟩) hS (fun r_6 h_4 H locs p_5 hR hS => ?_)
  obtain ⟨e_7, e_8⟩ := p_5
  rw [e_8] at hR
  refine ah_toi e_7 ?_
  refine lv_iload hx hb dL_law_202 (lv_at hl 1 rfl) ?_
  refine lv_icmp_eq (tgt := 209) hx hb dL_law_204 (by decide) (fun c_9 => ?_) (fun c_9 => ?_)
  · skip
    have c_9 : kk = kk := (nI_eq (by omega) (by omega)).mp c_9
    refine lv_iload hx hb dL_law_209 (lv_at hl 1 rfl) ?_
    refine lv_if_ne (tgt := 226) hx hb dL_law_211 (by decide) (fun c_10 => ?_) (fun c_10 => ?_)
    · skip
      have c_10 : ¬ (kk = 0) := fun z9 => c_10 ((zi_eq (by omega)).mpr z9)
      refine lv_goto (tgt := 850) hx hb dL_law_226 (by decide) ?_
      refine W.widen (k := cells + 20) (n := slots + 1200) (by omega) (by omega) ?_
      exact K _ _ _ _ _ ls tw9 fO9 hR hS (lv_sub hl [2, 3, 4, 5, 6] rfl)
    · skip
      have c_10 : kk = 0 := (zi_eq (by omega)).mp c_10
      refine lv_aload_n hx hb dL_law_214 rfl (lv_at hl 6 rfl) ?_
      refine lv_iconst (v := nI 0) hx hb dL_law_215 (by decide) ?_
      refine ah_lald (i := 0) (t := 12) (n := 1) hx hb hE hR fO9 (by decide) (by decide) dL_law_216 ?_
      refine lv_iload hx hb dL_law_217 (lv_at hl 0 rfl) ?_
      refine lv_i2l (v := (r_3).toInt64) hx hb dL_law_219 rfl ?_
      refine W.lcmp hx hb dL_law_220 ?_
      refine ah_toi (v := nI 0) (by rw [eq9 c_10]; exact lg_0 _) ?_
      refine lv_if_eq (tgt := 226) hx hb dL_law_221 (by decide) (fun c_11 => ?_) (fun c_11 => ?_)
      · skip
        refine lv_goto (tgt := 850) hx hb dL_law_226 (by decide) ?_
        refine W.widen (k := cells + 20) (n := slots + 1200) (by omega) (by omega) ?_
        exact K _ _ _ _ _ ls tw9 fO9 hR hS (lv_sub hl [2, 3, 4, 5, 6] rfl)
      · skip
        exact absurd (by decide) c_11
  · skip
    have c_9 : ¬ (kk = kk) := fun z9 => c_9 ((nI_eq (by omega) (by omega)).mpr z9)
    exact absurd rfl c_9

set_option maxHeartbeats 4000000 in
set_option maxRecDepth 100000 in
theorem law_make {p : Program} {l : Launch} {e : Env} {s : State} {m : MethodId} {below : List Frame} {meth : Method} {cd9 : Code} {Q : State → Prop} {b L : Nat} {xs : Nat → Int32} {G : ah_G} {x y o q cells slots : Nat} (C : lwC p l s m cd9 b L xs G) (hL : L ≤ 2048) (hq : 4 * q + 4 ≤ L) (hcells : cells + 20 ≤ room_1.cells) (hslots : slots + 1200 ≤ room_1.slots) (K : lwK p l e s m below meth cd9 Q b G x y o q cells slots) {k0 : Nat} {fo : Nat → Int64} {h : ah_H} {H : Heap} {locs : List Loc} {ls : Array Slot} (htw : tw G h x y q k0) (O : h o = some (oC G fo)) (hR : ah_R G h H) (hS : va_S (ah_A G) s.heap H locs) (hl : lv_has ls 7 [(4, .int (nI (4 * q))), (0, .ref b), (1, .ref x), (2, .ref y), (3, .ref o)]) : W p l e room_1 s m #[Value.ref b] below meth cd9 H locs cells slots Q (F0 m 229 ls []) := by
  obtain ⟨hx, hb, hml, hown, hts, hXs, hbl, hbA, hE, hX, hN, hlt⟩ := C
  obtain ⟨n, pm, zh, rf, c, pt, lc, gv, un, f, z, g, gh, D, lat, A, ln, bb, hh, la, mp, sd, rc, pr, th, sm, pc, pu, pa, ua, T, M, B⟩ := htw
  obtain ⟨⟨vs, fx⟩, hn, hf, hpm, hz, hzh, hgh, hrf, hc, hDB⟩ := T.facts
  have hB := B
  obtain ⟨bn, bp, b3, b4, b5, b6, b7, b8, b9⟩ := hB
  have hln : ∀ j, j < pm → ln j ≤ 142 := fun j hj => by rw [(b3 j hj).1]; exact (hz j hj).1
  have hbb : ∀ j, j < pm → ∀ k, k < ln j → bb (142 * j + k) < 256 := fun j hj k hk => by rw [(b3 j hj).2 k (by rw [← (b3 j hj).1]; exact hk)]; exact (hz j hj).2 k
  obtain ⟨P, hP⟩ : ∃ P, P = tParts f n (sumS f 0 n) (outs f n) := ⟨_, rfl⟩
  have hP8 : P ≤ 8 := by rw [hP]; exact tParts_l8 (by omega)
  refine lv_aload_n hx hb dL_law_229 rfl (lv_at hl 2 rfl) ?_
  refine lv_aload_n hx hb dL_law_230 rfl (lv_at hl 4 rfl) ?_
  refine ah_calli (vx_runSW (As := [.ref x, .ref o]) (rest := []) ⟨hx, hb, hml, hown, hts⟩ (c_L_make l G h x o P fx O (c_make l hlt G h x n pm zh rf c pt f z g gh D lat T P hP) (fun w9 h9 z9 => hp_o ((pa_make (G := G) (h := h) (x := x) (n := n) (pm := pm) (zh := zh) (rf := rf) (c := c) (pt := pt) (f := f) (z := z) (g := g) (gh := gh) (D := D) (lat := lat)) w9 h9 z9) O) (fun E h9 z9 => z9.1)) (vx_cwSW 2 hts gL_law_L_make rfl rfl rfl (by decide +kernel) ⟨Nat.le_of_ble_eq_true rfl, Nat.le_of_ble_eq_true rfl⟩) (ah_preH hE hX hN hR hS) rfl rfl hl.1 rfl (lv_room (Nat.le_of_ble_eq_true rfl)) dL_law_231 ⟨show cells + (2 * P + 1) ≤ room_1.cells by omega, show slots + (144 * P + 6) ≤ room_1.slots by omega⟩) hS (fun r1 h1 H locs p1 hR hS => ?_)
  have a1 := hp_ag (pa_make (G := G) (h := h) (x := x) (n := n) (pm := pm) (zh := zh) (rf := rf) (c := c) (pt := pt) (f := f) (z := z) (g := g) (gh := gh) (D := D) (lat := lat)) (fun E h9 z9 => z9.2.2) O p1
  obtain ⟨my, m1, m2, m4, m7, m8, m10, m12, m14, m15, m16, m17, m18, m19, m21, m22, m24, m26⟩ := md_after M a1
  refine lv_istore (lv' := [(5, .int r1), (4, .int (nI (4 * q))), (0, .ref b), (1, .ref x), (2, .ref y), (3, .ref o)]) hx hb dL_law_234 hl (by decide) rfl (fun ls hl => ?_)
  refine lv_aload_n hx hb dL_law_236 rfl (lv_at hl 4 rfl) ?_
  refine ah_calli (va_runV (As := []) (rest := []) ⟨hx, hb, hml, hown, hts⟩ (c_m_make l G h1 y A k0 n rf pm zh lc c pt gv un my m1 m2 f m4 ln m7 bb m8 hn hf hrf P hP) (cwV 0 hts gL_law_X9_make rfl rfl rfl (by decide +kernel) ⟨Nat.le_of_ble_eq_true rfl, Nat.le_of_ble_eq_true rfl⟩) (ah_preV hE hR hS my rfl) rfl rfl hl.1 rfl (lv_room (Nat.le_of_ble_eq_true rfl)) dL_law_237 ⟨show (cells + (2 * P + 1)) + 0 ≤ room_1.cells by omega, show (slots + (144 * P + 6)) + 0 ≤ room_1.slots by omega⟩) hS (fun r_3 h_1 H locs p_2 hR hS => ?_)
  obtain ⟨kk, fo9, ek, hk2, tw9, fO9, eq9⟩ := st_make hP T M B O p1 p_2
  subst ek
  obtain ⟨A9, n9, rf9, pm9, zh9, lc9, c9, pt9, gv9, un9, fy9⟩ := tw9.fy
  refine lv_istore (lv' := [(6, .int r_3), (5, .int (nI kk)), (4, .int (nI (4 * q))), (0, .ref b), (1, .ref x), (2, .ref y), (3, .ref o)]) hx hb dL_law_240 hl (by decide) rfl (fun ls hl => ?_)
  refine lv_aload_n hx hb dL_law_242 rfl (lv_at hl 5 rfl) ?_
  refine ah_calli (va_runV (As := []) (rest := []) ⟨hx, hb, hml, hown, hts⟩ (c_m_thrown l G h_1 y A9 kk n9 rf9 pm9 zh9 lc9 c9 pt9 gv9 un9 fy9) (cwV 0 hts gL_law_X9_thrown rfl rfl rfl (by decide +kernel) ⟨Nat.le_of_ble_eq_true rfl, Nat.le_of_ble_eq_true rfl⟩) (ah_preV hE hR hS fy9 rfl) rfl rfl hl.1 rfl (lv_room (Nat.le_of_ble_eq_true rfl)) dL_law_243 ⟨show (cells + (2 * P + 1)) + 0 ≤ room_1.cells by omega, show (slots + (144 * P + 6)) + 0 ≤ room_1.slots by omega⟩) hS (fun r_6 h_4 H locs p_5 hR hS => ?_)
  obtain ⟨e_7, e_8⟩ := p_5
  rw [e_8] at hR
  refine ah_toi e_7 ?_
  refine lv_iload hx hb dL_law_246 (lv_at hl 1 rfl) ?_
  refine lv_icmp_eq (tgt := 253) hx hb dL_law_248 (by decide) (fun c_9 => ?_) (fun c_9 => ?_)
  · skip
    have c_9 : kk = kk := (nI_eq (by omega) (by omega)).mp c_9
    refine lv_iload hx hb dL_law_253 (lv_at hl 1 rfl) ?_
    refine lv_if_ne (tgt := 270) hx hb dL_law_255 (by decide) (fun c_10 => ?_) (fun c_10 => ?_)
    · skip
      have c_10 : ¬ (kk = 0) := fun z9 => c_10 ((zi_eq (by omega)).mpr z9)
      refine lv_goto (tgt := 850) hx hb dL_law_270 (by decide) ?_
      refine W.widen (k := cells + 20) (n := slots + 1200) (by omega) (by omega) ?_
      exact K _ _ _ _ _ ls tw9 fO9 hR hS (lv_sub hl [2, 3, 4, 5, 6] rfl)
    · skip
      have c_10 : kk = 0 := (zi_eq (by omega)).mp c_10
      refine lv_aload_n hx hb dL_law_258 rfl (lv_at hl 6 rfl) ?_
      refine lv_iconst (v := nI 0) hx hb dL_law_259 (by decide) ?_
      refine ah_lald (i := 0) (t := 12) (n := 1) hx hb hE hR fO9 (by decide) (by decide) dL_law_260 ?_
      refine lv_iload hx hb dL_law_261 (lv_at hl 0 rfl) ?_
      refine lv_i2l (v := (r_3).toInt64) hx hb dL_law_263 rfl ?_
      refine W.lcmp hx hb dL_law_264 ?_
      refine ah_toi (v := nI 0) (by rw [eq9 c_10]; exact lg_0 _) ?_
      refine lv_if_eq (tgt := 270) hx hb dL_law_265 (by decide) (fun c_11 => ?_) (fun c_11 => ?_)
      · skip
        refine lv_goto (tgt := 850) hx hb dL_law_270 (by decide) ?_
        refine W.widen (k := cells + 20) (n := slots + 1200) (by omega) (by omega) ?_
        exact K _ _ _ _ _ ls tw9 fO9 hR hS (lv_sub hl [2, 3, 4, 5, 6] rfl)
      · skip
        exact absurd (by decide) c_11
  · skip
    have c_9 : ¬ (kk = kk) := fun z9 => c_9 ((nI_eq (by omega) (by omega)).mpr z9)
    exact absurd rfl c_9
