def R_law : String := "TextPartsLaw"
def lw_P (b : Addr) (xs : List Int32) (args : Array Value) (s : State) : Prop := args = #[.ref b] ∧ s.IntsAt b xs ∧ xs.length ≤ 2048 ∧ (Jvm.Cond.and given_1 narrow_1).before args s = true
def lw_Q (_ : Array Value) (s : State) (o : Outcome) (t : State) : Prop := o = .returned (some (.int 1)) ∧ Framed s o t [] 601024 7293034
def lw_Z (below : List Frame) (a : Array Value) (s : State) : State → Prop := fun t => ∃ o, t.status = .running ∧ Ended t below o ∧ lw_Q a s o t
/-- the law's own end, with 1 on the stack, nothing written that was there before, its room as the claim has it -/
theorem lw_ret {p : Program} {l : Launch} {e : Env} {s : State} {m : MethodId} {below : List Frame} {meth : Method} {c : Code} {b : Nat} (hx : p.tables.exec = Jvm.exec) (hb : c.code = code) (hr : meth.sig.returnType = ret) (hlocks : meth.locks = false) {pc : Nat} {H : Heap} {ls : Array Slot} (hdg : decode code pc = .ok (.ireturn, 1)) : W p l e room_1 s m #[Value.ref b] below meth c H [] 601024 7293034 (lw_Z below #[Value.ref b] s) (F0 m pc ls [.int 1]) := by
  intro T hT X
  obtain ⟨fs, hret, hrun, hended, hW, hframe⟩ := X.leave (v := some (.int 1)) (hlocks := hlocks) (fun h => by rw [hr] at h; cases h)
  have hmeth' : T.vm.method? m = some meth := X.method'
  refine ⟨T.setFrames fs, ?_, .returned (some (.int 1)), hrun, hended, rfl, ⟨_, rfl⟩, hW, hframe⟩
  jvm_step X.here [X.here.top, hx, hb, hdg, hmeth', hr, ret, narrow_b1]
  (try refine ⟨rfl, ?_⟩); (try refine ⟨rfl, ?_⟩)
  first | (intro acts; rw [hret _ acts rfl rfl rfl]) | rw [hret _ _ rfl rfl rfl]
  exact Steps.refl _
/-- what holds at the law's entry: the machine, the code, the tables' words (any of lw_tbl by 'hts w (by decide +kernel)'), the script of L ints xs at the cell b, what the Statement gives of the start (any of its parts by flat_of_before) -/
def lw_At (p : Program) (s : State) (m : MethodId) (meth : Method) (c : Code) (b L : Nat) (xs : Nat → Int32) : Prop :=
  p.tables.exec = Jvm.exec ∧ c.code = code ∧ meth.sig.returnType = ret ∧ c.maxLocals = 7 ∧ s.vm.findClass R_law = some m.cls ∧ (∀ w ∈ lw_tbl, w.before #[Value.ref b] s = true) ∧ va_X b L xs s s.heap ∧ b < s.heap.size ∧ meth.locks = false ∧ (Jvm.Cond.and given_1 narrow_1).before #[Value.ref b] s = true
set_option maxHeartbeats 4000000 in
set_option maxRecDepth 100000 in
theorem whole_start {p : Program} {e : Env} {s : State} {m : MethodId} {below : List Frame} {meth : Method} {cd9 : Code} (l : Launch) (hlt : l.stackTraces = false) {b L : Nat} {xs : Nat → Int32} (hL : L ≤ 2048) (C0 : lw_At p s m meth cd9 b L xs) : W p l e room_1 s m #[Value.ref b] below meth cd9 s.heap [] 0 0 (lw_Z below #[Value.ref b] s) (entryFrame m ([Value.ref b] : List Value).toArray 7) := by
  obtain ⟨hx, hb, hr, hml, hown, hts0, hXs, hbl, hlocks, hgv⟩ := id C0
  have hts : ∀ w ∈ wsL_law, w.before #[Value.ref b] s = true := fun w h => hts0 w (wsL_law_in w h)
  obtain ⟨G, hG1, hE, hX, hN⟩ := en_G hts0 (flat_of_before _ hgv)
  have hbA : ¬ ah_A G b := by show ¬ G.1 ≤ b; rw [hG1]; exact Nat.not_le.mpr hbl
  have hown : s.vm.findClass RL = some m.cls := hown
  have hb : cd9.code = cL_law := hb
  have hl := lv_entry ([.ref b]) (n := 7) (Nat.le_of_ble_eq_true rfl)
  rw [lg_entry_eq]
  generalize (lg_sl ([.ref b]) ++ List.replicate (7 - (lg_sl ([.ref b])).length) Slot.unset).toArray = ls at hl ⊢
  have hl : lv_has ls 7 [(0, .ref b)] := hl
  have hS : va_S (ah_A G) s.heap s.heap [] := va_S.rf
  have hR : ah_R G (fun _ => none) s.heap := ⟨[], fun k q h => by simp at h, ⟨fun i j p q h => by simp at h, fun k q h => by simp at h⟩, fun a t e h => by cases h⟩
  have wclassLink_RL_8_RX8 := hts (.classLink RL 8 RX8) (by decide +kernel)
  have winstantiable_RX8_5 := hts (.instantiable RX8 5) (by decide +kernel)
  have winitialized_RX8 := hts (.initialized RX8) (by decide +kernel)
  have wmethodLink_RL_53_yX8_init := hts (.methodLink RL 53 yX8_init) (by decide +kernel)
  have winstanceMethod_yX8_init := hts (.instanceMethod yX8_init) (by decide +kernel)
  have wclassLink_RL_54_RX9 := hts (.classLink RL 54 RX9) (by decide +kernel)
  have winstantiable_RX9_27 := hts (.instantiable RX9 27) (by decide +kernel)
  have winitialized_RX9 := hts (.initialized RX9) (by decide +kernel)
  have wmethodLink_RL_56_yX9_init := hts (.methodLink RL 56 yX9_init) (by decide +kernel)
  have winstanceMethod_yX9_init := hts (.instanceMethod yX9_init) (by decide +kernel)
  refine ah_newo (ci := 7) (fs := [.null, .null, .null, .null, .int (nI 0)]) (C := RX8) (T := TX8) (N := 5) hx hb hE hR hS 1 hts inlX8 tyX8 tyX8_ok hown wclassLink_RL_8_RX8 winstantiable_RX8_5 winitialized_RX8 rfl (fun j hj => by rcases (show j = 0 ∨ j = 1 ∨ j = 2 ∨ j = 3 ∨ j = 4 by omega) with rfl | rfl | rfl | rfl | rfl <;> rfl) (Nat.le_of_ble_eq_true rfl) (Nat.le_of_ble_eq_true rfl) dL_law_0 (fun q_1 H hq_2 hR hS => ?_)
  obtain ⟨h_3, e_4⟩ : ∃ zz9, zz9 = ah_up (fun _ => none) q_1 (1, .inr (7, [.null, .null, .null, .null, .int (nI 0)])) := ⟨_, rfl⟩
  have hR : ah_R G h_3 H := by rw [e_4]; exact hR
  have f_5 : h_3 q_1 = some (1, .inr (7, [.null, .null, .null, .null, .int (nI 0)])) := by rw [e_4]; exact ah_up_s _ _ _
  refine lv_dup hx hb dL_law_3 rfl ?_
  refine ah_callv (va_runI (As := []) (rest := [.ref q_1]) ⟨hx, hb, hml, hown, hts⟩ (c_init l G h_3 q_1 f_5) (cwI 0 hts gL_law_X8_init rfl rfl rfl winitialized_RX8 wmethodLink_RL_53_yX8_init winstanceMethod_yX8_init rfl (by decide +kernel) ⟨Nat.le_of_ble_eq_true rfl, Nat.le_of_ble_eq_true rfl⟩) (ah_preS hE hR hS) rfl rfl hl.1 rfl (lv_room (Nat.le_of_ble_eq_true rfl)) dL_law_4 ⟨Nat.le_of_ble_eq_true rfl, Nat.le_of_ble_eq_true rfl⟩) hS (fun h_6 H locs p_7 hR hS => ?_)
  obtain ⟨D, T, -⟩ := p_7
  refine lv_astore_n (lv' := [(1, .ref q_1), (0, .ref b)]) hx hb dL_law_7 rfl hl (by decide) rfl (fun ls hl => ?_)
  refine ah_newo (ci := 8) (fs := [.int (nI 0), .null, .null, .int (nI 0), .null, .int (nI 0), .int (nI 0), .null, .null, .int (nI 0), .null, .int (nI 0), .null, .int (nI 0), .null, .null, .null, .null, .null, .null, .int (nI 0), .null, .null, .int (nI 0), .null, .int (nI 0), .null]) (C := RX9) (T := TX9) (N := 27) hx hb hE hR hS 20 hts inlX9 tyX9 tyX9_ok hown wclassLink_RL_54_RX9 winstantiable_RX9_27 winitialized_RX9 rfl (fun j hj => by rcases (show j = 0 ∨ j = 1 ∨ j = 2 ∨ j = 3 ∨ j = 4 ∨ j = 5 ∨ j = 6 ∨ j = 7 ∨ j = 8 ∨ j = 9 ∨ j = 10 ∨ j = 11 ∨ j = 12 ∨ j = 13 ∨ j = 14 ∨ j = 15 ∨ j = 16 ∨ j = 17 ∨ j = 18 ∨ j = 19 ∨ j = 20 ∨ j = 21 ∨ j = 22 ∨ j = 23 ∨ j = 24 ∨ j = 25 ∨ j = 26 by omega) with rfl | rfl | rfl | rfl | rfl | rfl | rfl | rfl | rfl | rfl | rfl | rfl | rfl | rfl | rfl | rfl | rfl | rfl | rfl | rfl | rfl | rfl | rfl | rfl | rfl | rfl | rfl <;> rfl) (Nat.le_of_ble_eq_true rfl) (Nat.le_of_ble_eq_true rfl) dL_law_8 (fun q_9 H hq_10 hR hS => ?_)
  obtain ⟨h_11, e_12⟩ : ∃ zz9, zz9 = ah_up h_6 q_9 (20, .inr (8, [.int (nI 0), .null, .null, .int (nI 0), .null, .int (nI 0), .int (nI 0), .null, .null, .int (nI 0), .null, .int (nI 0), .null, .int (nI 0), .null, .null, .null, .null, .null, .null, .int (nI 0), .null, .null, .int (nI 0), .null, .int (nI 0), .null])) := ⟨_, rfl⟩
  have hR : ah_R G h_11 H := by rw [e_12]; exact hR
  have f_13 : h_11 q_9 = some (20, .inr (8, [.int (nI 0), .null, .null, .int (nI 0), .null, .int (nI 0), .int (nI 0), .null, .null, .int (nI 0), .null, .int (nI 0), .null, .int (nI 0), .null, .null, .null, .null, .null, .null, .int (nI 0), .null, .null, .int (nI 0), .null, .int (nI 0), .null])) := by rw [e_12]; exact ah_up_s _ _ _
  have T2 := T.frame (show agr cT h_6 h_11 by rw [e_12]; exact agr.rf.new hq_10)
  refine lv_dup hx hb dL_law_11 rfl ?_
  refine ah_callv (va_runI (As := []) (rest := [.ref q_9]) ⟨hx, hb, hml, hown, hts⟩ (c_m_init l G h_11 q_9 f_13) (cwI 0 hts gL_law_X9_init rfl rfl rfl winitialized_RX9 wmethodLink_RL_56_yX9_init winstanceMethod_yX9_init rfl (by decide +kernel) ⟨Nat.le_of_ble_eq_true rfl, Nat.le_of_ble_eq_true rfl⟩) (ah_preS hE hR hS) rfl rfl hl.1 rfl (lv_room (Nat.le_of_ble_eq_true rfl)) dL_law_12 ⟨Nat.le_of_ble_eq_true rfl, Nat.le_of_ble_eq_true rfl⟩) hS (fun h_14 H locs p_15 hR hS => ?_)
  obtain ⟨A, my, m1, m2, m4, m7, m8, m10, m12, m14, m15, m16, m17, m18, m19, m21, m22, m24, m26, aM⟩ := p_15
  have T3 := T2.frame (aM.weak (fun t q => by unfold cT at q; omega))
  refine lv_astore_n (lv' := [(2, .ref q_9), (1, .ref q_1), (0, .ref b)]) hx hb dL_law_15 rfl hl (by decide) rfl (fun ls hl => ?_)
  refine lv_iconst (v := nI 1) hx hb dL_law_16 (by decide) ?_
  refine ah_newl (n := 1) hx hb hE hR hS (hts (.arrayClass .long) (by decide +kernel)) 12 (by decide) (Nat.le_of_ble_eq_true rfl) (Nat.le_of_ble_eq_true rfl) dL_law_17 (fun o H ho hR hS => ?_)
  obtain ⟨h4, e4⟩ : ∃ zz9, zz9 = ah_up h_14 o (oC G (fun _ => 0)) := ⟨_, rfl⟩
  have hR : ah_R G h4 H := by rw [e4]; exact hR
  have fO : h4 o = some (oC G (fun _ => 0)) := by rw [e4]; exact ah_up_s _ _ _
  have T4 := T3.frame (show agr cT h_14 h4 by rw [e4]; exact agr.rf.new ho)
  have M3 : md G h_14 q_9 A 0 0 0 0 0 0 0 0 0 0 (fun _ => 0) (fun _ => 0) (fun _ => 0) (fun _ => 0) (fun _ => 0) (fun _ => 0) (fun _ => 0) (fun _ => 0) (fun _ => 0) (fun _ => 0) (fun _ => 0) (nA (fun _ => 0)) (fun _ => 0) (fun _ => 0) (fun _ => 0) := ⟨my, m1, m2, m4, m7, m8, m10, m12, m14, m15, m16, m17, m18, m19, m21, m22, m24, m26⟩
  have M4 := M3.frame (show agr (fun t => 20 ≤ t ∧ t ≤ 46) h_14 h4 by rw [e4]; exact agr.rf.new ho)
  refine lv_astore_n (lv' := [(3, .ref o), (2, .ref q_9), (1, .ref q_1), (0, .ref b)]) hx hb dL_law_19 rfl hl (by decide) rfl (fun ls hl => ?_)
  refine lv_iconst (v := nI 0) hx hb dL_law_20 (by decide) ?_
  refine lv_istore (lv' := [(4, .int (nI 0)), (3, .ref o), (2, .ref q_9), (1, .ref q_1), (0, .ref b)]) hx hb dL_law_21 hl (by decide) rfl (fun ls hl => ?_)
  have htw : tw G h4 q_1 q_9 0 0 := ⟨0, 0, 0, 0, 0, 0, 0, 0, 0, (fun _ => 0), (fun _ => 0), (fun _ _ => 0), (fun _ => 0), D, none, A, (fun _ => 0), (fun _ => 0), (fun _ => 0), (fun _ => 0), (fun _ => 0), (fun _ => 0), (fun _ => 0), (fun _ => 0), (fun _ => 0), (fun _ => 0), (nA (fun _ => 0)), (fun _ => 0), (fun _ => 0), (fun _ => 0), T4, M4, Nat.le_refl _, Nat.le_refl _, fun j hj => absurd hj (Nat.not_lt_zero j), fun i hi => rfl, fun i => Nat.zero_lt_succ 255, fun i => Nat.zero_lt_succ 255, ⟨fun i hi => absurd hi (Nat.not_lt_zero i), fun i j hi => absurd hi (Nat.not_lt_zero i)⟩, fun i j hi => absurd hi (Nat.not_lt_zero i), rfl⟩
  refine W.widen (k := 30 + 20 * 0) (n := 741781 + 1200 * 0) (by omega) (by omega) ?_
  exact law_loop ⟨hx, hb, hml, hown, hts, hXs, hbl, hbA, hE, hX, hN, hlt⟩ hL (fun H locs ls hS => va_forget (fun q hq => by have h9 := hS.2.2 q hq; rw [← hG1]; exact h9) (lw_ret hx hb hr hlocks dL_law_857)) 513 0 0 _ h4 H _ ls (by omega) (by omega) htw fO hR hS (lv_sub hl [0, 4, 3, 2, 1] rfl)
