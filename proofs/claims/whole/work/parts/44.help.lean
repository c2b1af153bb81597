/-! ===== the law's helpers: a call of the class, its answer laid into out[0], its exceptions told by a number ===== -/
def xk (E : String) : Nat := if E = eIS then 2 else 1
theorem xk_A : xk eIA = 1 := by decide +kernel
theorem xk_S : xk eIS = 2 := by decide +kernel
theorem xk_U : xk eUO = 1 := by decide +kernel
abbrev oC (G : ah_G) (fo : Nat → Int64) : Nat × va_E := (12, .inl (G.2.2.1 4, 1, .inr (.inl fo)))
def hpost (G : ah_G) (o : Nat) (fo : Nat → Int64) (post : Int32 → ah_H → Prop) (px : String → ah_H → Prop) (v : Int32) (h' : ah_H) : Prop :=
  (v = nI 0 ∧ ∃ w h1, post w h1 ∧ h' = ah_up h1 o (oC G (vp_updL fo 0 w.toInt64))) ∨ (∃ E, px E h' ∧ v = nI (xk E))

set_option maxHeartbeats 4000000 in
set_option maxRecDepth 100000 in
theorem c_L_put (l : Launch) (G : ah_G) (h : ah_H) (x o : Nat) (u0 : Int32) {tx : Nat} {vs : List Value} (fx : h x = some (tx, .inr (7, vs))) {fo : Nat → Int64} (fO : h o = some (oC G fo)) {post : Int32 → ah_H → Prop} {px : String → ah_H → Prop} (C9 : vx_Met l yX8_put wsX8_put ({ frames := 6, cells := 1, slots := 6, locals := 100 }) (ah_Px G [.ref x, .int u0] h) (ah_Qi G post) (ah_QX G px) (1) (6) (ah_A G)) (hpo : ∀ w h1, post w h1 → h1 o = h o) (hpx : ∀ E h1, px E h1 → E = eIA ∨ E = eIS) : Met l yL_put wsL_put ({ frames := 7, cells := 1, slots := 6, locals := 121 }) (ah_PH G [.ref x, .int u0, .ref o] h) (ah_Qi G (hpost G o fo post px)) (1) (6) (ah_A G) := by
  refine ah_ofH (cc := cL_put) (maxL := 4) (ret := (some .int)) (hh := [(0, 9, 12, 13), (0, 9, 15, 15)]) (by decide) rfl (Nat.le_of_ble_eq_true rfl) ?_
  intro p e s m below meth cd9 ls hx hb hr hml hown hlocks hname hts htb hN hX hE hR hS hl
  have hown : s.vm.findClass RL = some m.cls := hown
  have hl : lv_has ls 4 [(0, .ref x), (1, .int u0), (2, .ref o)] := hl
  have wclassLink_RL_13_java_lang_IllegalArgumentException := hts (.classLink RL 13 "java/lang/IllegalArgumentException") (by decide +kernel)
  have wclassLink_RL_15_java_lang_IllegalStateException := hts (.classLink RL 15 "java/lang/IllegalStateException") (by decide +kernel)
  refine lv_aload_n hx hb dL_put_0 rfl (lv_at hl 2 rfl) ?_
  refine lv_iconst (v := nI 0) hx hb dL_put_1 (by decide) ?_
  refine lv_aload_n hx hb dL_put_2 rfl (lv_at hl 0 rfl) ?_
  refine lv_iload_n hx hb dL_put_3 rfl (lv_at hl 1 rfl) ?_
  refine ah_callX (vx_runV (As := [.int u0]) (rest := [.int (nI 0), .ref o]) ⟨hx, hb, hml, hown, hts⟩ C9 (cwV 1 hts gL_put_X8_put rfl rfl rfl (by decide +kernel) ⟨Nat.le_of_ble_eq_true rfl, Nat.le_of_ble_eq_true rfl⟩) (ah_preXV hE hX hR hS fx rfl) rfl rfl hl.1 rfl (lv_room (Nat.le_of_ble_eq_true rfl)) dL_put_4 ⟨Nat.le_of_ble_eq_true rfl, Nat.le_of_ble_eq_true rfl⟩) hS (fun E ce q9 h1 H locs hpX hR hS hq9 hv9 hcl9 => ?_) (fun w9 h1 H locs hP hR hS => ?_)
  · skip
    rcases hpx E h1 hpX with e9 | e9
    · skip
      subst e9
      refine vx_catch (own := RL) (name := eIA) (E := eIA) hown [] ⟨0, 9, 12, 13⟩ [⟨0, 9, 15, 15⟩] htb (fun z hz => nomatch hz) (by decide) (by decide) wclassLink_RL_13_java_lang_IllegalArgumentException (va_Nw.use rfl hX.2.2.1.2.2.2.1) hq9 hv9 hcl9 ?_
      refine lv_astore_n (lv' := [(3, .ref q9), (0, .ref x), (1, .int u0), (2, .ref o)]) hx hb dL_put_12 rfl hl (by decide) rfl (fun ls hl => ?_)
      refine lv_iconst (v := nI 1) hx hb dL_put_13 (by decide) ?_
      refine ah_iret (v := nI 1) hx hb hr hlocks hR hS dL_put_14 ?_
      exact Or.inr ⟨_, hpX, by rw [xk_A]⟩
    · skip
      subst e9
      refine vx_catch (own := RL) (name := eIS) (E := eIS) hown [⟨0, 9, 12, 13⟩] ⟨0, 9, 15, 15⟩ [] htb (fun z hz => by rw [List.mem_singleton.mp hz]; exact Or.inr ⟨by decide, eIA, wclassLink_RL_13_java_lang_IllegalArgumentException, hN⟩) (by decide) (by decide) wclassLink_RL_15_java_lang_IllegalStateException (va_Nw.use rfl hX.2.2.1.2.2.2.2.1) hq9 hv9 hcl9 ?_
      refine lv_astore_n (lv' := [(3, .ref q9), (0, .ref x), (1, .int u0), (2, .ref o)]) hx hb dL_put_15 rfl hl (by decide) rfl (fun ls hl => ?_)
      refine lv_iconst (v := nI 2) hx hb dL_put_16 (by decide) ?_
      refine ah_iret (v := nI 2) hx hb hr hlocks hR hS dL_put_17 ?_
      exact Or.inr ⟨_, hpX, by rw [xk_S]⟩
  · skip
    have fo1 : h1 o = some (oC G fo) := (hpo w9 h1 hP).trans fO
    refine lv_i2l (v := w9.toInt64) hx hb dL_put_7 rfl ?_
    refine ah_last (i := 0) (t := 12) (n := 1) hx hb hE hR hS fo1 (by decide) (by decide) dL_put_8 (fun H locs hR hS => ?_)
    refine lv_goto (tgt := 18) hx hb dL_put_9 (by decide) ?_
    refine lv_iconst (v := nI 0) hx hb dL_put_18 (by decide) ?_
    refine ah_iret (v := nI 0) hx hb hr hlocks hR hS dL_put_19 ?_
    exact Or.inl ⟨rfl, w9, h1, hP, rfl⟩

set_option maxHeartbeats 4000000 in
set_option maxRecDepth 100000 in
theorem c_L_about (l : Launch) (G : ah_G) (h : ah_H) (x o : Nat) (u0 : Int32) {tx : Nat} {vs : List Value} (fx : h x = some (tx, .inr (7, vs))) {fo : Nat → Int64} (fO : h o = some (oC G fo)) {post : Int32 → ah_H → Prop} {px : String → ah_H → Prop} (C9 : vx_Met l yX8_about wsX8_about ({ frames := 6, cells := 1, slots := 6, locals := 129 }) (ah_Px G [.ref x, .int u0] h) (ah_Qi G post) (ah_QX G px) (1) (6) (ah_A G)) (hpo : ∀ w h1, post w h1 → h1 o = h o) (hpx : ∀ E h1, px E h1 → E = eIA) : Met l yL_about wsL_about ({ frames := 7, cells := 1, slots := 6, locals := 150 }) (ah_PH G [.ref x, .int u0, .ref o] h) (ah_Qi G (hpost G o fo post px)) (1) (6) (ah_A G) := by
  refine ah_ofH (cc := cL_about) (maxL := 4) (ret := (some .int)) (hh := [(0, 9, 12, 13)]) (by decide) rfl (Nat.le_of_ble_eq_true rfl) ?_
  intro p e s m below meth cd9 ls hx hb hr hml hown hlocks hname hts htb hN hX hE hR hS hl
  have hown : s.vm.findClass RL = some m.cls := hown
  have hl : lv_has ls 4 [(0, .ref x), (1, .int u0), (2, .ref o)] := hl
  have wclassLink_RL_13_java_lang_IllegalArgumentException := hts (.classLink RL 13 "java/lang/IllegalArgumentException") (by decide +kernel)
  refine lv_aload_n hx hb dL_about_0 rfl (lv_at hl 2 rfl) ?_
  refine lv_iconst (v := nI 0) hx hb dL_about_1 (by decide) ?_
  refine lv_aload_n hx hb dL_about_2 rfl (lv_at hl 0 rfl) ?_
  refine lv_iload_n hx hb dL_about_3 rfl (lv_at hl 1 rfl) ?_
  refine ah_callX (vx_runV (As := [.int u0]) (rest := [.int (nI 0), .ref o]) ⟨hx, hb, hml, hown, hts⟩ C9 (cwV 1 hts gL_about_X8_about rfl rfl rfl (by decide +kernel) ⟨Nat.le_of_ble_eq_true rfl, Nat.le_of_ble_eq_true rfl⟩) (ah_preXV hE hX hR hS fx rfl) rfl rfl hl.1 rfl (lv_room (Nat.le_of_ble_eq_true rfl)) dL_about_4 ⟨Nat.le_of_ble_eq_true rfl, Nat.le_of_ble_eq_true rfl⟩) hS (fun E ce q9 h1 H locs hpX hR hS hq9 hv9 hcl9 => ?_) (fun w9 h1 H locs hP hR hS => ?_)
  · skip
    have e9 := hpx E h1 hpX
    subst e9
    refine vx_catch (own := RL) (name := eIA) (E := eIA) hown [] ⟨0, 9, 12, 13⟩ [] htb (fun z hz => nomatch hz) (by decide) (by decide) wclassLink_RL_13_java_lang_IllegalArgumentException (va_Nw.use rfl hX.2.2.1.2.2.2.1) hq9 hv9 hcl9 ?_
    refine lv_astore_n (lv' := [(3, .ref q9), (0, .ref x), (1, .int u0), (2, .ref o)]) hx hb dL_about_12 rfl hl (by decide) rfl (fun ls hl => ?_)
    refine lv_iconst (v := nI 1) hx hb dL_about_13 (by decide) ?_
    refine ah_iret (v := nI 1) hx hb hr hlocks hR hS dL_about_14 ?_
    exact Or.inr ⟨_, hpX, by rw [xk_A]⟩
  · skip
    have fo1 : h1 o = some (oC G fo) := (hpo w9 h1 hP).trans fO
    refine lv_i2l (v := w9.toInt64) hx hb dL_about_7 rfl ?_
    refine ah_last (i := 0) (t := 12) (n := 1) hx hb hE hR hS fo1 (by decide) (by decide) dL_about_8 (fun H locs hR hS => ?_)
    refine lv_goto (tgt := 15) hx hb dL_about_9 (by decide) ?_
    refine lv_iconst (v := nI 0) hx hb dL_about_15 (by decide) ?_
    refine ah_iret (v := nI 0) hx hb hr hlocks hR hS dL_about_16 ?_
    exact Or.inl ⟨rfl, w9, h1, hP, rfl⟩

set_option maxHeartbeats 4000000 in
set_option maxRecDepth 100000 in
theorem c_L_make (l : Launch) (G : ah_G) (h : ah_H) (x o : Nat) (P : Nat) {tx : Nat} {vs : List Value} (fx : h x = some (tx, .inr (7, vs))) {fo : Nat → Int64} (fO : h o = some (oC G fo)) {post : Int32 → ah_H → Prop} {px : String → ah_H → Prop} (C9 : vx_Met l yX8_make wsX8_make ({ frames := 6, cells := 2 * P + 1, slots := 144 * P + 6, locals := 143 }) (ah_Px G [.ref x] h) (ah_Qi G post) (ah_QX G px) (2 * P + 1) (144 * P + 6) (ah_A G)) (hpo : ∀ w h1, post w h1 → h1 o = h o) (hpx : ∀ E h1, px E h1 → E = eUO) : Met l yL_make wsL_make ({ frames := 7, cells := 2 * P + 1, slots := 144 * P + 6, locals := 164 }) (ah_PH G [.ref x, .ref o] h) (ah_Qi G (hpost G o fo post px)) (2 * P + 1) (144 * P + 6) (ah_A G) := by
  refine ah_ofH (cc := cL_make) (maxL := 3) (ret := (some .int)) (hh := [(0, 8, 11, 24)]) (by decide) rfl (Nat.le_of_ble_eq_true rfl) ?_
  intro p e s m below meth cd9 ls hx hb hr hml hown hlocks hname hts htb hN hX hE hR hS hl
  have hown : s.vm.findClass RL = some m.cls := hown
  have hl : lv_has ls 3 [(0, .ref x), (1, .ref o)] := hl
  have wclassLink_RL_24_java_lang_UnsupportedOperationException := hts (.classLink RL 24 "java/lang/UnsupportedOperationException") (by decide +kernel)
  refine lv_aload_n hx hb dL_make_0 rfl (lv_at hl 1 rfl) ?_
  refine lv_iconst (v := nI 0) hx hb dL_make_1 (by decide) ?_
  refine lv_aload_n hx hb dL_make_2 rfl (lv_at hl 0 rfl) ?_
  refine ah_callX (vx_runV (As := []) (rest := [.int (nI 0), .ref o]) ⟨hx, hb, hml, hown, hts⟩ C9 (cwV 0 hts gL_make_X8_make rfl rfl rfl (by decide +kernel) ⟨Nat.le_of_ble_eq_true rfl, Nat.le_of_ble_eq_true rfl⟩) (ah_preXV hE hX hR hS fx rfl) rfl rfl hl.1 rfl (lv_room (Nat.le_of_ble_eq_true rfl)) dL_make_3 ⟨show 0 + (2 * P + 1) ≤ 2 * P + 1 by omega, show 0 + (144 * P + 6) ≤ 144 * P + 6 by omega⟩) hS (fun E ce q9 h1 H locs hpX hR hS hq9 hv9 hcl9 => ?_) (fun w9 h1 H locs hP hR hS => ?_)
  · skip
    have e9 := hpx E h1 hpX
    subst e9
    refine vx_catch (own := RL) (name := eUO) (E := eUO) hown [] ⟨0, 8, 11, 24⟩ [] htb (fun z hz => nomatch hz) (by decide) (by decide) wclassLink_RL_24_java_lang_UnsupportedOperationException (va_Nw.use rfl hX.2.2.1.2.2.2.2.2) hq9 hv9 hcl9 ?_
    refine W.widen (k := 2 * P + 1) (n := 144 * P + 6) (by omega) (by omega) ?_
    refine lv_astore_n (lv' := [(2, .ref q9), (0, .ref x), (1, .ref o)]) hx hb dL_make_11 rfl hl (by decide) rfl (fun ls hl => ?_)
    refine lv_iconst (v := nI 1) hx hb dL_make_12 (by decide) ?_
    refine ah_iret (v := nI 1) hx hb hr hlocks hR hS dL_make_13 ?_
    exact Or.inr ⟨_, hpX, by rw [xk_U]⟩
  · skip
    refine W.widen (k := 2 * P + 1) (n := 144 * P + 6) (by omega) (by omega) ?_
    have fo1 : h1 o = some (oC G fo) := (hpo w9 h1 hP).trans fO
    refine lv_i2l (v := w9.toInt64) hx hb dL_make_6 rfl ?_
    refine ah_last (i := 0) (t := 12) (n := 1) hx hb hE hR hS fo1 (by decide) (by decide) dL_make_7 (fun H locs hR hS => ?_)
    refine lv_goto (tgt := 14) hx hb dL_make_8 (by decide) ?_
    refine lv_iconst (v := nI 0) hx hb dL_make_14 (by decide) ?_
    refine ah_iret (v := nI 0) hx hb hr hlocks hR hS dL_make_15 ?_
    exact Or.inl ⟨rfl, w9, h1, hP, rfl⟩

set_option maxHeartbeats 4000000 in
set_option maxRecDepth 100000 in
theorem c_L_length (l : Launch) (G : ah_G) (h : ah_H) (x o : Nat) (u0 : Int32) {tx : Nat} {vs : List Value} (fx : h x = some (tx, .inr (7, vs))) {fo : Nat → Int64} (fO : h o = some (oC G fo)) {post : Int32 → ah_H → Prop} {px : String → ah_H → Prop} (C9 : vx_Met l yX8_length wsX8_length ({ frames := 6, cells := 1, slots := 6, locals := 100 }) (ah_Px G [.ref x, .int u0] h) (ah_Qi G post) (ah_QX G px) (1) (6) (ah_A G)) (hpo : ∀ w h1, post w h1 → h1 o = h o) (hpx : ∀ E h1, px E h1 → E = eIA) : Met l yL_length wsL_length ({ frames := 7, cells := 1, slots := 6, locals := 122 }) (ah_PH G [.ref x, .int u0, .ref o] h) (ah_Qi G (hpost G o fo post px)) (1) (6) (ah_A G) := by
  refine ah_ofH (cc := cL_length) (maxL := 4) (ret := (some .int)) (hh := [(0, 9, 12, 13)]) (by decide) rfl (Nat.le_of_ble_eq_true rfl) ?_
  intro p e s m below meth cd9 ls hx hb hr hml hown hlocks hname hts htb hN hX hE hR hS hl
  have hown : s.vm.findClass RL = some m.cls := hown
  have hl : lv_has ls 4 [(0, .ref x), (1, .int u0), (2, .ref o)] := hl
  have wclassLink_RL_13_java_lang_IllegalArgumentException := hts (.classLink RL 13 "java/lang/IllegalArgumentException") (by decide +kernel)
  refine lv_aload_n hx hb dL_length_0 rfl (lv_at hl 2 rfl) ?_
  refine lv_iconst (v := nI 0) hx hb dL_length_1 (by decide) ?_
  refine lv_aload_n hx hb dL_length_2 rfl (lv_at hl 0 rfl) ?_
  refine lv_iload_n hx hb dL_length_3 rfl (lv_at hl 1 rfl) ?_
  refine ah_callX (vx_runV (As := [.int u0]) (rest := [.int (nI 0), .ref o]) ⟨hx, hb, hml, hown, hts⟩ C9 (cwV 1 hts gL_length_X8_length rfl rfl rfl (by decide +kernel) ⟨Nat.le_of_ble_eq_true rfl, Nat.le_of_ble_eq_true rfl⟩) (ah_preXV hE hX hR hS fx rfl) rfl rfl hl.1 rfl (lv_room (Nat.le_of_ble_eq_true rfl)) dL_length_4 ⟨Nat.le_of_ble_eq_true rfl, Nat.le_of_ble_eq_true rfl⟩) hS (fun E ce q9 h1 H locs hpX hR hS hq9 hv9 hcl9 => ?_) (fun w9 h1 H locs hP hR hS => ?_)
  · skip
    have e9 := hpx E h1 hpX
    subst e9
    refine vx_catch (own := RL) (name := eIA) (E := eIA) hown [] ⟨0, 9, 12, 13⟩ [] htb (fun z hz => nomatch hz) (by decide) (by decide) wclassLink_RL_13_java_lang_IllegalArgumentException (va_Nw.use rfl hX.2.2.1.2.2.2.1) hq9 hv9 hcl9 ?_
    refine lv_astore_n (lv' := [(3, .ref q9), (0, .ref x), (1, .int u0), (2, .ref o)]) hx hb dL_length_12 rfl hl (by decide) rfl (fun ls hl => ?_)
    refine lv_iconst (v := nI 1) hx hb dL_length_13 (by decide) ?_
    refine ah_iret (v := nI 1) hx hb hr hlocks hR hS dL_length_14 ?_
    exact Or.inr ⟨_, hpX, by rw [xk_A]⟩
  · skip
    have fo1 : h1 o = some (oC G fo) := (hpo w9 h1 hP).trans fO
    refine lv_i2l (v := w9.toInt64) hx hb dL_length_7 rfl ?_
    refine ah_last (i := 0) (t := 12) (n := 1) hx hb hE hR hS fo1 (by decide) (by decide) dL_length_8 (fun H locs hR hS => ?_)
    refine lv_goto (tgt := 15) hx hb dL_length_9 (by decide) ?_
    refine lv_iconst (v := nI 0) hx hb dL_length_15 (by decide) ?_
    refine ah_iret (v := nI 0) hx hb hr hlocks hR hS dL_length_16 ?_
    exact Or.inl ⟨rfl, w9, h1, hP, rfl⟩

set_option maxHeartbeats 4000000 in
set_option maxRecDepth 100000 in
theorem c_L_byteOf (l : Launch) (G : ah_G) (h : ah_H) (x o : Nat) (u0 : Int32) (u1 : Int32) {tx : Nat} {vs : List Value} (fx : h x = some (tx, .inr (7, vs))) {fo : Nat → Int64} (fO : h o = some (oC G fo)) {post : Int32 → ah_H → Prop} {px : String → ah_H → Prop} (C9 : vx_Met l yX8_byteOf wsX8_byteOf ({ frames := 6, cells := 1, slots := 6, locals := 100 }) (ah_Px G [.ref x, .int u0, .int u1] h) (ah_Qi G post) (ah_QX G px) (1) (6) (ah_A G)) (hpo : ∀ w h1, post w h1 → h1 o = h o) (hpx : ∀ E h1, px E h1 → E = eIA) : Met l yL_byteOf wsL_byteOf ({ frames := 7, cells := 1, slots := 6, locals := 123 }) (ah_PH G [.ref x, .int u0, .int u1, .ref o] h) (ah_Qi G (hpost G o fo post px)) (1) (6) (ah_A G) := by
  refine ah_ofH (cc := cL_byteOf) (maxL := 5) (ret := (some .int)) (hh := [(0, 10, 13, 13)]) (by decide) rfl (Nat.le_of_ble_eq_true rfl) ?_
  intro p e s m below meth cd9 ls hx hb hr hml hown hlocks hname hts htb hN hX hE hR hS hl
  have hown : s.vm.findClass RL = some m.cls := hown
  have hl : lv_has ls 5 [(0, .ref x), (1, .int u0), (2, .int u1), (3, .ref o)] := hl
  have wclassLink_RL_13_java_lang_IllegalArgumentException := hts (.classLink RL 13 "java/lang/IllegalArgumentException") (by decide +kernel)
  refine lv_aload_n hx hb dL_byteOf_0 rfl (lv_at hl 3 rfl) ?_
  refine lv_iconst (v := nI 0) hx hb dL_byteOf_1 (by decide) ?_
  refine lv_aload_n hx hb dL_byteOf_2 rfl (lv_at hl 0 rfl) ?_
  refine lv_iload_n hx hb dL_byteOf_3 rfl (lv_at hl 1 rfl) ?_
  refine lv_iload_n hx hb dL_byteOf_4 rfl (lv_at hl 2 rfl) ?_
  refine ah_callX (vx_runV (As := [.int u0, .int u1]) (rest := [.int (nI 0), .ref o]) ⟨hx, hb, hml, hown, hts⟩ C9 (cwV 2 hts gL_byteOf_X8_byteOf rfl rfl rfl (by decide +kernel) ⟨Nat.le_of_ble_eq_true rfl, Nat.le_of_ble_eq_true rfl⟩) (ah_preXV hE hX hR hS fx rfl) rfl rfl hl.1 rfl (lv_room (Nat.le_of_ble_eq_true rfl)) dL_byteOf_5 ⟨Nat.le_of_ble_eq_true rfl, Nat.le_of_ble_eq_true rfl⟩) hS (fun E ce q9 h1 H locs hpX hR hS hq9 hv9 hcl9 => ?_) (fun w9 h1 H locs hP hR hS => ?_)
  · skip
    have e9 := hpx E h1 hpX
    subst e9
    refine vx_catch (own := RL) (name := eIA) (E := eIA) hown [] ⟨0, 10, 13, 13⟩ [] htb (fun z hz => nomatch hz) (by decide) (by decide) wclassLink_RL_13_java_lang_IllegalArgumentException (va_Nw.use rfl hX.2.2.1.2.2.2.1) hq9 hv9 hcl9 ?_
    refine lv_astore (lv' := [(4, .ref q9), (0, .ref x), (1, .int u0), (2, .int u1), (3, .ref o)]) hx hb dL_byteOf_13 hl (by decide) rfl (fun ls hl => ?_)
    refine lv_iconst (v := nI 1) hx hb dL_byteOf_15 (by decide) ?_
    refine ah_iret (v := nI 1) hx hb hr hlocks hR hS dL_byteOf_16 ?_
    exact Or.inr ⟨_, hpX, by rw [xk_A]⟩
  · skip
    have fo1 : h1 o = some (oC G fo) := (hpo w9 h1 hP).trans fO
    refine lv_i2l (v := w9.toInt64) hx hb dL_byteOf_8 rfl ?_
    refine ah_last (i := 0) (t := 12) (n := 1) hx hb hE hR hS fo1 (by decide) (by decide) dL_byteOf_9 (fun H locs hR hS => ?_)
    refine lv_goto (tgt := 17) hx hb dL_byteOf_10 (by decide) ?_
    refine lv_iconst (v := nI 0) hx hb dL_byteOf_17 (by decide) ?_
    refine ah_iret (v := nI 0) hx hb hr hlocks hR hS dL_byteOf_18 ?_
    exact Or.inl ⟨rfl, w9, h1, hP, rfl⟩

set_option maxHeartbeats 4000000 in
set_option maxRecDepth 100000 in
theorem c_L_take (l : Launch) (G : ah_G) (h : ah_H) (x o : Nat) (u0 : Int32) (u1 : Int32) {tx : Nat} {vs : List Value} (fx : h x = some (tx, .inr (7, vs))) {fo : Nat → Int64} (fO : h o = some (oC G fo)) {post : Int32 → ah_H → Prop} {px : String → ah_H → Prop} (C9 : vx_Met l yX8_take wsX8_take ({ frames := 6, cells := 4, slots := 422, locals := 135 }) (ah_Px G [.ref x, .int u0, .int u1] h) (ah_Qi G post) (ah_QX G px) (4) (422) (ah_A G)) (hpo : ∀ w h1, post w h1 → h1 o = h o) (hpx : ∀ E h1, px E h1 → E = eIA) : Met l yL_take wsL_take ({ frames := 7, cells := 4, slots := 422, locals := 158 }) (ah_PH G [.ref x, .int u0, .int u1, .ref o] h) (ah_Qi G (hpost G o fo post px)) (4) (422) (ah_A G) := by
  refine ah_ofH (cc := cL_take) (maxL := 5) (ret := (some .int)) (hh := [(0, 10, 13, 13)]) (by decide) rfl (Nat.le_of_ble_eq_true rfl) ?_
  intro p e s m below meth cd9 ls hx hb hr hml hown hlocks hname hts htb hN hX hE hR hS hl
  have hown : s.vm.findClass RL = some m.cls := hown
  have hl : lv_has ls 5 [(0, .ref x), (1, .int u0), (2, .int u1), (3, .ref o)] := hl
  have wclassLink_RL_13_java_lang_IllegalArgumentException := hts (.classLink RL 13 "java/lang/IllegalArgumentException") (by decide +kernel)
  refine lv_aload_n hx hb dL_take_0 rfl (lv_at hl 3 rfl) ?_
  refine lv_iconst (v := nI 0) hx hb dL_take_1 (by decide) ?_
  refine lv_aload_n hx hb dL_take_2 rfl (lv_at hl 0 rfl) ?_
  refine lv_iload_n hx hb dL_take_3 rfl (lv_at hl 1 rfl) ?_
  refine lv_iload_n hx hb dL_take_4 rfl (lv_at hl 2 rfl) ?_
  refine ah_callX (vx_runV (As := [.int u0, .int u1]) (rest := [.int (nI 0), .ref o]) ⟨hx, hb, hml, hown, hts⟩ C9 (cwV 2 hts gL_take_X8_take rfl rfl rfl (by decide +kernel) ⟨Nat.le_of_ble_eq_true rfl, Nat.le_of_ble_eq_true rfl⟩) (ah_preXV hE hX hR hS fx rfl) rfl rfl hl.1 rfl (lv_room (Nat.le_of_ble_eq_true rfl)) dL_take_5 ⟨Nat.le_of_ble_eq_true rfl, Nat.le_of_ble_eq_true rfl⟩) hS (fun E ce q9 h1 H locs hpX hR hS hq9 hv9 hcl9 => ?_) (fun w9 h1 H locs hP hR hS => ?_)
  · skip
    have e9 := hpx E h1 hpX
    subst e9
    refine vx_catch (own := RL) (name := eIA) (E := eIA) hown [] ⟨0, 10, 13, 13⟩ [] htb (fun z hz => nomatch hz) (by decide) (by decide) wclassLink_RL_13_java_lang_IllegalArgumentException (va_Nw.use rfl hX.2.2.1.2.2.2.1) hq9 hv9 hcl9 ?_
    refine lv_astore (lv' := [(4, .ref q9), (0, .ref x), (1, .int u0), (2, .int u1), (3, .ref o)]) hx hb dL_take_13 hl (by decide) rfl (fun ls hl => ?_)
    refine lv_iconst (v := nI 1) hx hb dL_take_15 (by decide) ?_
    refine ah_iret (v := nI 1) hx hb hr hlocks hR hS dL_take_16 ?_
    exact Or.inr ⟨_, hpX, by rw [xk_A]⟩
  · skip
    have fo1 : h1 o = some (oC G fo) := (hpo w9 h1 hP).trans fO
    refine lv_i2l (v := w9.toInt64) hx hb dL_take_8 rfl ?_
    refine ah_last (i := 0) (t := 12) (n := 1) hx hb hE hR hS fo1 (by decide) (by decide) dL_take_9 (fun H locs hR hS => ?_)
    refine lv_goto (tgt := 17) hx hb dL_take_10 (by decide) ?_
    refine lv_iconst (v := nI 0) hx hb dL_take_17 (by decide) ?_
    refine ah_iret (v := nI 0) hx hb hr hlocks hR hS dL_take_18 ?_
    exact Or.inl ⟨rfl, w9, h1, hP, rfl⟩

set_option maxHeartbeats 4000000 in
set_option maxRecDepth 100000 in
theorem c_L_alter (l : Launch) (G : ah_G) (h : ah_H) (x o : Nat) (u0 : Int32) (u1 : Int32) (u2 : Int32) {tx : Nat} {vs : List Value} (fx : h x = some (tx, .inr (7, vs))) {fo : Nat → Int64} (fO : h o = some (oC G fo)) {post : Int32 → ah_H → Prop} {px : String → ah_H → Prop} (C9 : vx_Met l yX8_alter wsX8_alter ({ frames := 6, cells := 1, slots := 6, locals := 100 }) (ah_Px G [.ref x, .int u0, .int u1, .int u2] h) (ah_Qi G post) (ah_QX G px) (1) (6) (ah_A G)) (hpo : ∀ w h1, post w h1 → h1 o = h o) (hpx : ∀ E h1, px E h1 → E = eIA) : Met l yL_alter wsL_alter ({ frames := 7, cells := 1, slots := 6, locals := 125 }) (ah_PH G [.ref x, .int u0, .int u1, .int u2, .ref o] h) (ah_Qi G (hpost G o fo post px)) (1) (6) (ah_A G) := by
  refine ah_ofH (cc := cL_alter) (maxL := 6) (ret := (some .int)) (hh := [(0, 12, 15, 13)]) (by decide) rfl (Nat.le_of_ble_eq_true rfl) ?_
  intro p e s m below meth cd9 ls hx hb hr hml hown hlocks hname hts htb hN hX hE hR hS hl
  have hown : s.vm.findClass RL = some m.cls := hown
  have hl : lv_has ls 6 [(0, .ref x), (1, .int u0), (2, .int u1), (3, .int u2), (4, .ref o)] := hl
  have wclassLink_RL_13_java_lang_IllegalArgumentException := hts (.classLink RL 13 "java/lang/IllegalArgumentException") (by decide +kernel)
  refine lv_aload hx hb dL_alter_0 (lv_at hl 4 rfl) ?_
  refine lv_iconst (v := nI 0) hx hb dL_alter_2 (by decide) ?_
  refine lv_aload_n hx hb dL_alter_3 rfl (lv_at hl 0 rfl) ?_
  refine lv_iload_n hx hb dL_alter_4 rfl (lv_at hl 1 rfl) ?_
  refine lv_iload_n hx hb dL_alter_5 rfl (lv_at hl 2 rfl) ?_
  refine lv_iload_n hx hb dL_alter_6 rfl (lv_at hl 3 rfl) ?_
  refine ah_callX (vx_runV (As := [.int u0, .int u1, .int u2]) (rest := [.int (nI 0), .ref o]) ⟨hx, hb, hml, hown, hts⟩ C9 (cwV 3 hts gL_alter_X8_alter rfl rfl rfl (by decide +kernel) ⟨Nat.le_of_ble_eq_true rfl, Nat.le_of_ble_eq_true rfl⟩) (ah_preXV hE hX hR hS fx rfl) rfl rfl hl.1 rfl (lv_room (Nat.le_of_ble_eq_true rfl)) dL_alter_7 ⟨Nat.le_of_ble_eq_true rfl, Nat.le_of_ble_eq_true rfl⟩) hS (fun E ce q9 h1 H locs hpX hR hS hq9 hv9 hcl9 => ?_) (fun w9 h1 H locs hP hR hS => ?_)
  · skip
    have e9 := hpx E h1 hpX
    subst e9
    refine vx_catch (own := RL) (name := eIA) (E := eIA) hown [] ⟨0, 12, 15, 13⟩ [] htb (fun z hz => nomatch hz) (by decide) (by decide) wclassLink_RL_13_java_lang_IllegalArgumentException (va_Nw.use rfl hX.2.2.1.2.2.2.1) hq9 hv9 hcl9 ?_
    refine lv_astore (lv' := [(5, .ref q9), (0, .ref x), (1, .int u0), (2, .int u1), (3, .int u2), (4, .ref o)]) hx hb dL_alter_15 hl (by decide) rfl (fun ls hl => ?_)
    refine lv_iconst (v := nI 1) hx hb dL_alter_17 (by decide) ?_
    refine ah_iret (v := nI 1) hx hb hr hlocks hR hS dL_alter_18 ?_
    exact Or.inr ⟨_, hpX, by rw [xk_A]⟩
  · skip
    have fo1 : h1 o = some (oC G fo) := (hpo w9 h1 hP).trans fO
    refine lv_i2l (v := w9.toInt64) hx hb dL_alter_10 rfl ?_
    refine ah_last (i := 0) (t := 12) (n := 1) hx hb hE hR hS fo1 (by decide) (by decide) dL_alter_11 (fun H locs hR hS => ?_)
    refine lv_goto (tgt := 19) hx hb dL_alter_12 (by decide) ?_
    refine lv_iconst (v := nI 0) hx hb dL_alter_19 (by decide) ?_
    refine ah_iret (v := nI 0) hx hb hr hlocks hR hS dL_alter_20 ?_
    exact Or.inl ⟨rfl, w9, h1, hP, rfl⟩

set_option maxHeartbeats 4000000 in
set_option maxRecDepth 100000 in
theorem c_L_feed (l : Launch) (G : ah_G) (h : ah_H) (x o : Nat) (wv : Int64) (u1 : Int32) {tx : Nat} {vs : List Value} (fx : h x = some (tx, .inr (7, vs))) {fo : Nat → Int64} (fO : h o = some (oC G fo)) {post : Int32 → ah_H → Prop} {px : String → ah_H → Prop} (C9 : vx_Met l yX8_feed wsX8_feed ({ frames := 6, cells := 1, slots := 6, locals := 100 }) (ah_Px G [.ref x, .long wv, .int u1] h) (ah_Qi G post) (ah_QX G px) (1) (6) (ah_A G)) (hpo : ∀ w h1, post w h1 → h1 o = h o) (hpx : ∀ E h1, px E h1 → E = eIA ∨ E = eIS) : Met l yL_feed wsL_feed ({ frames := 7, cells := 1, slots := 6, locals := 124 }) (ah_PH G [.ref x, .long wv, .int u1, .ref o] h) (ah_Qi G (hpost G o fo post px)) (1) (6) (ah_A G) := by
  refine ah_ofH (cc := cL_feed) (maxL := 6) (ret := (some .int)) (hh := [(0, 11, 14, 13), (0, 11, 18, 15)]) (by decide) rfl (Nat.le_of_ble_eq_true rfl) ?_
  intro p e s m below meth cd9 ls hx hb hr hml hown hlocks hname hts htb hN hX hE hR hS hl
  have hown : s.vm.findClass RL = some m.cls := hown
  have hl : lv_has ls 6 [(0, .ref x), (1, .long wv), (3, .int u1), (4, .ref o)] := hl
  have wclassLink_RL_13_java_lang_IllegalArgumentException := hts (.classLink RL 13 "java/lang/IllegalArgumentException") (by decide +kernel)
  have wclassLink_RL_15_java_lang_IllegalStateException := hts (.classLink RL 15 "java/lang/IllegalStateException") (by decide +kernel)
  refine lv_aload hx hb dL_feed_0 (lv_at hl 3 rfl) ?_
  refine lv_iconst (v := nI 0) hx hb dL_feed_2 (by decide) ?_
  refine lv_aload_n hx hb dL_feed_3 rfl (lv_at hl 0 rfl) ?_
  refine lv_lload_n hx hb dL_feed_4 rfl (lv_at hl 1 rfl) ?_
  refine lv_iload_n hx hb dL_feed_5 rfl (lv_at hl 2 rfl) ?_
  refine ah_callX (vx_runV (As := [.long wv, .int u1]) (rest := [.int (nI 0), .ref o]) ⟨hx, hb, hml, hown, hts⟩ C9 (cwV 2 hts gL_feed_X8_feed rfl rfl rfl (by decide +kernel) ⟨Nat.le_of_ble_eq_true rfl, Nat.le_of_ble_eq_true rfl⟩) (ah_preXV hE hX hR hS fx rfl) rfl rfl hl.1 rfl (lv_room (Nat.le_of_ble_eq_true rfl)) dL_feed_6 ⟨Nat.le_of_ble_eq_true rfl, Nat.le_of_ble_eq_true rfl⟩) hS (fun E ce q9 h1 H locs hpX hR hS hq9 hv9 hcl9 => ?_) (fun w9 h1 H locs hP hR hS => ?_)
  · skip
    rcases hpx E h1 hpX with e9 | e9
    · skip
      subst e9
      refine vx_catch (own := RL) (name := eIA) (E := eIA) hown [] ⟨0, 11, 14, 13⟩ [⟨0, 11, 18, 15⟩] htb (fun z hz => nomatch hz) (by decide) (by decide) wclassLink_RL_13_java_lang_IllegalArgumentException (va_Nw.use rfl hX.2.2.1.2.2.2.1) hq9 hv9 hcl9 ?_
      refine lv_astore (lv' := [(5, .ref q9), (0, .ref x), (1, .long wv), (3, .int u1), (4, .ref o)]) hx hb dL_feed_14 hl (by decide) rfl (fun ls hl => ?_)
      refine lv_iconst (v := nI 1) hx hb dL_feed_16 (by decide) ?_
      refine ah_iret (v := nI 1) hx hb hr hlocks hR hS dL_feed_17 ?_
      exact Or.inr ⟨_, hpX, by rw [xk_A]⟩
    · skip
      subst e9
      refine vx_catch (own := RL) (name := eIS) (E := eIS) hown [⟨0, 11, 14, 13⟩] ⟨0, 11, 18, 15⟩ [] htb (fun z hz => by rw [List.mem_singleton.mp hz]; exact Or.inr ⟨by decide, eIA, wclassLink_RL_13_java_lang_IllegalArgumentException, hN⟩) (by decide) (by decide) wclassLink_RL_15_java_lang_IllegalStateException (va_Nw.use rfl hX.2.2.1.2.2.2.2.1) hq9 hv9 hcl9 ?_
      refine lv_astore (lv' := [(5, .ref q9), (0, .ref x), (1, .long wv), (3, .int u1), (4, .ref o)]) hx hb dL_feed_18 hl (by decide) rfl (fun ls hl => ?_)
      refine lv_iconst (v := nI 2) hx hb dL_feed_20 (by decide) ?_
      refine ah_iret (v := nI 2) hx hb hr hlocks hR hS dL_feed_21 ?_
      exact Or.inr ⟨_, hpX, by rw [xk_S]⟩
  · skip
    have fo1 : h1 o = some (oC G fo) := (hpo w9 h1 hP).trans fO
    refine lv_i2l (v := w9.toInt64) hx hb dL_feed_9 rfl ?_
    refine ah_last (i := 0) (t := 12) (n := 1) hx hb hE hR hS fo1 (by decide) (by decide) dL_feed_10 (fun H locs hR hS => ?_)
    refine lv_goto (tgt := 22) hx hb dL_feed_11 (by decide) ?_
    refine lv_iconst (v := nI 0) hx hb dL_feed_22 (by decide) ?_
    refine ah_iret (v := nI 0) hx hb hr hlocks hR hS dL_feed_23 ?_
    exact Or.inl ⟨rfl, w9, h1, hP, rfl⟩

set_option maxHeartbeats 4000000 in
set_option maxRecDepth 100000 in
theorem c_L_read (l : Launch) (G : ah_G) (h : ah_H) (x o : Nat) (u0 : Int32) {tx : Nat} {vs : List Value} (fx : h x = some (tx, .inr (7, vs))) {fo : Nat → Int64} (fO : h o = some (oC G fo)) {post : Int32 → ah_H → Prop} {px : String → ah_H → Prop} (C9 : vx_Met l yX8_read wsX8_read ({ frames := 6, cells := 4, slots := 422, locals := 135 }) (ah_Px G [.ref x, .int u0] h) (ah_Qi G post) (ah_QX G px) (4) (422) (ah_A G)) (hpo : ∀ w h1, post w h1 → h1 o = h o) (hpx : ∀ E h1, px E h1 → E = eIA) : Met l yL_read wsL_read ({ frames := 7, cells := 4, slots := 422, locals := 157 }) (ah_PH G [.ref x, .int u0, .ref o] h) (ah_Qi G (hpost G o fo post px)) (4) (422) (ah_A G) := by
  refine ah_ofH (cc := cL_read) (maxL := 4) (ret := (some .int)) (hh := [(0, 9, 12, 13)]) (by decide) rfl (Nat.le_of_ble_eq_true rfl) ?_
  intro p e s m below meth cd9 ls hx hb hr hml hown hlocks hname hts htb hN hX hE hR hS hl
  have hown : s.vm.findClass RL = some m.cls := hown
  have hl : lv_has ls 4 [(0, .ref x), (1, .int u0), (2, .ref o)] := hl
  have wclassLink_RL_13_java_lang_IllegalArgumentException := hts (.classLink RL 13 "java/lang/IllegalArgumentException") (by decide +kernel)
  refine lv_aload_n hx hb dL_read_0 rfl (lv_at hl 2 rfl) ?_
  refine lv_iconst (v := nI 0) hx hb dL_read_1 (by decide) ?_
  refine lv_aload_n hx hb dL_read_2 rfl (lv_at hl 0 rfl) ?_
  refine lv_iload_n hx hb dL_read_3 rfl (lv_at hl 1 rfl) ?_
  refine ah_callX (vx_runV (As := [.int u0]) (rest := [.int (nI 0), .ref o]) ⟨hx, hb, hml, hown, hts⟩ C9 (cwV 1 hts gL_read_X8_read rfl rfl rfl (by decide +kernel) ⟨Nat.le_of_ble_eq_true rfl, Nat.le_of_ble_eq_true rfl⟩) (ah_preXV hE hX hR hS fx rfl) rfl rfl hl.1 rfl (lv_room (Nat.le_of_ble_eq_true rfl)) dL_read_4 ⟨Nat.le_of_ble_eq_true rfl, Nat.le_of_ble_eq_true rfl⟩) hS (fun E ce q9 h1 H locs hpX hR hS hq9 hv9 hcl9 => ?_) (fun w9 h1 H locs hP hR hS => ?_)
  · skip
    have e9 := hpx E h1 hpX
    subst e9
    refine vx_catch (own := RL) (name := eIA) (E := eIA) hown [] ⟨0, 9, 12, 13⟩ [] htb (fun z hz => nomatch hz) (by decide) (by decide) wclassLink_RL_13_java_lang_IllegalArgumentException (va_Nw.use rfl hX.2.2.1.2.2.2.1) hq9 hv9 hcl9 ?_
    refine lv_astore_n (lv' := [(3, .ref q9), (0, .ref x), (1, .int u0), (2, .ref o)]) hx hb dL_read_12 rfl hl (by decide) rfl (fun ls hl => ?_)
    refine lv_iconst (v := nI 1) hx hb dL_read_13 (by decide) ?_
    refine ah_iret (v := nI 1) hx hb hr hlocks hR hS dL_read_14 ?_
    exact Or.inr ⟨_, hpX, by rw [xk_A]⟩
  · skip
    have fo1 : h1 o = some (oC G fo) := (hpo w9 h1 hP).trans fO
    refine lv_i2l (v := w9.toInt64) hx hb dL_read_7 rfl ?_
    refine ah_last (i := 0) (t := 12) (n := 1) hx hb hE hR hS fo1 (by decide) (by decide) dL_read_8 (fun H locs hR hS => ?_)
    refine lv_goto (tgt := 15) hx hb dL_read_9 (by decide) ?_
    refine lv_iconst (v := nI 0) hx hb dL_read_15 (by decide) ?_
    refine ah_iret (v := nI 0) hx hb hr hlocks hR hS dL_read_16 ?_
    exact Or.inl ⟨rfl, w9, h1, hP, rfl⟩

set_option maxHeartbeats 4000000 in
set_option maxRecDepth 100000 in
theorem c_L_heap (l : Launch) (G : ah_G) (h : ah_H) (x o : Nat) (u0 : Int32) (u1 : Int32) {tx : Nat} {vs : List Value} (fx : h x = some (tx, .inr (7, vs))) {fo : Nat → Int64} (fO : h o = some (oC G fo)) {post : Int32 → ah_H → Prop} {px : String → ah_H → Prop} (C9 : vx_Met l yX8_heap wsX8_heap ({ frames := 6, cells := 1, slots := 6, locals := 100 }) (ah_Px G [.ref x, .int u0, .int u1] h) (ah_Qi G post) (ah_QX G px) (1) (6) (ah_A G)) (hpo : ∀ w h1, post w h1 → h1 o = h o) (hpx : ∀ E h1, px E h1 → E = eIA) : Met l yL_heap wsL_heap ({ frames := 7, cells := 1, slots := 6, locals := 122 }) (ah_PH G [.ref x, .int u0, .int u1, .ref o] h) (ah_Qi G (hpost G o fo post px)) (1) (6) (ah_A G) := by
  refine ah_ofH (cc := cL_heap) (maxL := 5) (ret := (some .int)) (hh := [(0, 10, 13, 13)]) (by decide) rfl (Nat.le_of_ble_eq_true rfl) ?_
  intro p e s m below meth cd9 ls hx hb hr hml hown hlocks hname hts htb hN hX hE hR hS hl
  have hown : s.vm.findClass RL = some m.cls := hown
  have hl : lv_has ls 5 [(0, .ref x), (1, .int u0), (2, .int u1), (3, .ref o)] := hl
  have wclassLink_RL_13_java_lang_IllegalArgumentException := hts (.classLink RL 13 "java/lang/IllegalArgumentException") (by decide +kernel)
  refine lv_aload_n hx hb dL_heap_0 rfl (lv_at hl 3 rfl) ?_
  refine lv_iconst (v := nI 0) hx hb dL_heap_1 (by decide) ?_
  refine lv_aload_n hx hb dL_heap_2 rfl (lv_at hl 0 rfl) ?_
  refine lv_iload_n hx hb dL_heap_3 rfl (lv_at hl 1 rfl) ?_
  refine lv_iload_n hx hb dL_heap_4 rfl (lv_at hl 2 rfl) ?_
  refine ah_callX (vx_runV (As := [.int u0, .int u1]) (rest := [.int (nI 0), .ref o]) ⟨hx, hb, hml, hown, hts⟩ C9 (cwV 2 hts gL_heap_X8_heap rfl rfl rfl (by decide +kernel) ⟨Nat.le_of_ble_eq_true rfl, Nat.le_of_ble_eq_true rfl⟩) (ah_preXV hE hX hR hS fx rfl) rfl rfl hl.1 rfl (lv_room (Nat.le_of_ble_eq_true rfl)) dL_heap_5 ⟨Nat.le_of_ble_eq_true rfl, Nat.le_of_ble_eq_true rfl⟩) hS (fun E ce q9 h1 H locs hpX hR hS hq9 hv9 hcl9 => ?_) (fun w9 h1 H locs hP hR hS => ?_)
  · skip
    have e9 := hpx E h1 hpX
    subst e9
    refine vx_catch (own := RL) (name := eIA) (E := eIA) hown [] ⟨0, 10, 13, 13⟩ [] htb (fun z hz => nomatch hz) (by decide) (by decide) wclassLink_RL_13_java_lang_IllegalArgumentException (va_Nw.use rfl hX.2.2.1.2.2.2.1) hq9 hv9 hcl9 ?_
    refine lv_astore (lv' := [(4, .ref q9), (0, .ref x), (1, .int u0), (2, .int u1), (3, .ref o)]) hx hb dL_heap_13 hl (by decide) rfl (fun ls hl => ?_)
    refine lv_iconst (v := nI 1) hx hb dL_heap_15 (by decide) ?_
    refine ah_iret (v := nI 1) hx hb hr hlocks hR hS dL_heap_16 ?_
    exact Or.inr ⟨_, hpX, by rw [xk_A]⟩
  · skip
    have fo1 : h1 o = some (oC G fo) := (hpo w9 h1 hP).trans fO
    refine lv_i2l (v := w9.toInt64) hx hb dL_heap_8 rfl ?_
    refine ah_last (i := 0) (t := 12) (n := 1) hx hb hE hR hS fo1 (by decide) (by decide) dL_heap_9 (fun H locs hR hS => ?_)
    refine lv_goto (tgt := 17) hx hb dL_heap_10 (by decide) ?_
    refine lv_iconst (v := nI 0) hx hb dL_heap_17 (by decide) ?_
    refine ah_iret (v := nI 0) hx hb hr hlocks hR hS dL_heap_18 ?_
    exact Or.inl ⟨rfl, w9, h1, hP, rfl⟩

set_option maxHeartbeats 4000000 in
set_option maxRecDepth 100000 in
theorem c_L_forget (l : Launch) (G : ah_G) (h : ah_H) (x o : Nat) (u0 : Int32) {tx : Nat} {vs : List Value} (fx : h x = some (tx, .inr (7, vs))) {fo : Nat → Int64} (fO : h o = some (oC G fo)) {post : Int32 → ah_H → Prop} {px : String → ah_H → Prop} (C9 : vx_Met l yX8_forget wsX8_forget ({ frames := 6, cells := 1, slots := 6, locals := 100 }) (ah_Px G [.ref x, .int u0] h) (ah_Qi G post) (ah_QX G px) (1) (6) (ah_A G)) (hpo : ∀ w h1, post w h1 → h1 o = h o) (hpx : ∀ E h1, px E h1 → E = eIA) : Met l yL_forget wsL_forget ({ frames := 7, cells := 1, slots := 6, locals := 121 }) (ah_PH G [.ref x, .int u0, .ref o] h) (ah_Qi G (hpost G o fo post px)) (1) (6) (ah_A G) := by
  refine ah_ofH (cc := cL_forget) (maxL := 4) (ret := (some .int)) (hh := [(0, 9, 12, 13)]) (by decide) rfl (Nat.le_of_ble_eq_true rfl) ?_
  intro p e s m below meth cd9 ls hx hb hr hml hown hlocks hname hts htb hN hX hE hR hS hl
  have hown : s.vm.findClass RL = some m.cls := hown
  have hl : lv_has ls 4 [(0, .ref x), (1, .int u0), (2, .ref o)] := hl
  have wclassLink_RL_13_java_lang_IllegalArgumentException := hts (.classLink RL 13 "java/lang/IllegalArgumentException") (by decide +kernel)
  refine lv_aload_n hx hb dL_forget_0 rfl (lv_at hl 2 rfl) ?_
  refine lv_iconst (v := nI 0) hx hb dL_forget_1 (by decide) ?_
  refine lv_aload_n hx hb dL_forget_2 rfl (lv_at hl 0 rfl) ?_
  refine lv_iload_n hx hb dL_forget_3 rfl (lv_at hl 1 rfl) ?_
  refine ah_callX (vx_runV (As := [.int u0]) (rest := [.int (nI 0), .ref o]) ⟨hx, hb, hml, hown, hts⟩ C9 (cwV 1 hts gL_forget_X8_forget rfl rfl rfl (by decide +kernel) ⟨Nat.le_of_ble_eq_true rfl, Nat.le_of_ble_eq_true rfl⟩) (ah_preXV hE hX hR hS fx rfl) rfl rfl hl.1 rfl (lv_room (Nat.le_of_ble_eq_true rfl)) dL_forget_4 ⟨Nat.le_of_ble_eq_true rfl, Nat.le_of_ble_eq_true rfl⟩) hS (fun E ce q9 h1 H locs hpX hR hS hq9 hv9 hcl9 => ?_) (fun w9 h1 H locs hP hR hS => ?_)
  · skip
    have e9 := hpx E h1 hpX
    subst e9
    refine vx_catch (own := RL) (name := eIA) (E := eIA) hown [] ⟨0, 9, 12, 13⟩ [] htb (fun z hz => nomatch hz) (by decide) (by decide) wclassLink_RL_13_java_lang_IllegalArgumentException (va_Nw.use rfl hX.2.2.1.2.2.2.1) hq9 hv9 hcl9 ?_
    refine lv_astore_n (lv' := [(3, .ref q9), (0, .ref x), (1, .int u0), (2, .ref o)]) hx hb dL_forget_12 rfl hl (by decide) rfl (fun ls hl => ?_)
    refine lv_iconst (v := nI 1) hx hb dL_forget_13 (by decide) ?_
    refine ah_iret (v := nI 1) hx hb hr hlocks hR hS dL_forget_14 ?_
    exact Or.inr ⟨_, hpX, by rw [xk_A]⟩
  · skip
    have fo1 : h1 o = some (oC G fo) := (hpo w9 h1 hP).trans fO
    refine lv_i2l (v := w9.toInt64) hx hb dL_forget_7 rfl ?_
    refine ah_last (i := 0) (t := 12) (n := 1) hx hb hE hR hS fo1 (by decide) (by decide) dL_forget_8 (fun H locs hR hS => ?_)
    refine lv_goto (tgt := 15) hx hb dL_forget_9 (by decide) ?_
    refine lv_iconst (v := nI 0) hx hb dL_forget_15 (by decide) ?_
    refine ah_iret (v := nI 0) hx hb hr hlocks hR hS dL_forget_16 ?_
    exact Or.inl ⟨rfl, w9, h1, hP, rfl⟩
