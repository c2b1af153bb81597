/-! ===== the law's entry: what the tables and the start say, in our words ===== -/
theorem en_arr {s : State} {cA : ClassId} {k : Class} {comp : ClassId} {ty : FieldType} (h1 : s.vm.classes[cA]? = some k) (h2 : k.kind = .array comp ty) : ArrOfT s cA ty := fun n z => ⟨(fun j h => by cases h), k, h1, comp, h2⟩
theorem en_prim {a : Array Value} {s : State} {ty : FieldType} (h : (Cond.arrayClass ty).before a s = true) : ∃ cA : ClassId, ArrOfT s cA ty ∧ s.vm.findClass ("[" ++ ty.toString) = some cA := by
  obtain ⟨c, k, comp, h1, h2, h3⟩ := Cond.arrayClass_spec h
  exact ⟨c, en_arr h2 h3, h1⟩
theorem en_obj {a : Array Value} {s : State} {C : String} (h : (Cond.arrayOver (.object C)).before a s = true) : ∃ cA : ClassId, ArrOfT s cA (.object C) ∧ va_RA s cA (.object C) := by
  obtain ⟨comp, c, k, h1, h2, h3, h4, h5⟩ := Cond.arrayOver_spec h
  exact ⟨c, en_arr h3 h4, k, comp, h3, h4, h1, h5⟩
set_option maxRecDepth 20000 in
theorem en_K {a : Array Value} {s : State} (hts : ∀ w ∈ lw_tbl, w.before a s = true) : ∃ (dC : Nat → ClassId) (dI : Nat → Nat → Nat), ∀ (k : Nat) (q : vw_C), vwCl[k]? = some q → u_Kn s q.1 q.2.1 q.2.2 (dC k) (dI k) := by
  obtain ⟨c1, i1, k1⟩ := u_known (C := RX1) (T := TX1) (N := 6) (n := 6) hts inX1 (hts (.instantiable RX1 6) (List.mem_of_getElem? (i := 576) rfl))
  obtain ⟨c2, i2, k2⟩ := u_known (C := RX2) (T := TX2) (N := 5) (n := 5) hts inX2 (hts (.instantiable RX2 5) (List.mem_of_getElem? (i := 112) rfl))
  obtain ⟨c3, i3, k3⟩ := u_known (C := RX3) (T := TX3) (N := 2) (n := 2) hts inX3 (hts (.instantiable RX3 2) (List.mem_of_getElem? (i := 81) rfl))
  obtain ⟨c4, i4, k4⟩ := u_known (C := RX4) (T := TX4) (N := 7) (n := 7) hts inX4 (hts (.instantiable RX4 7) (List.mem_of_getElem? (i := 118) rfl))
  obtain ⟨c5, i5, k5⟩ := u_known (C := RX5) (T := TX5) (N := 1) (n := 1) hts inX5 (hts (.instantiable RX5 1) (List.mem_of_getElem? (i := 608) rfl))
  obtain ⟨c6, i6, k6⟩ := u_known (C := RX6) (T := TX6) (N := 2) (n := 2) hts inX6 (hts (.instantiable RX6 2) (List.mem_of_getElem? (i := 97) rfl))
  obtain ⟨c7, i7, k7⟩ := u_known (C := RX7) (T := TX7) (N := 4) (n := 4) hts inX7 (hts (.instantiable RX7 4) (List.mem_of_getElem? (i := 58) rfl))
  obtain ⟨c8, i8, k8⟩ := u_known (C := RX8) (T := TX8) (N := 5) (n := 5) hts inX8 (hts (.instantiable RX8 5) (List.mem_of_getElem? (i := 50) rfl))
  obtain ⟨c9, i9, k9⟩ := u_known (C := RX9) (T := TX9) (N := 27) (n := 27) hts inX9 (hts (.instantiable RX9 27) (List.mem_of_getElem? (i := 682) rfl))
  refine ⟨fun k => match k with | 0 => c1 | 1 => c2 | 2 => c3 | 3 => c4 | 4 => c5 | 5 => c6 | 6 => c7 | 7 => c8 | _ => c9, fun k => match k with | 0 => i1 | 1 => i2 | 2 => i3 | 3 => i4 | 4 => i5 | 5 => i6 | 6 => i7 | 7 => i8 | _ => i9, ?_⟩
  intro k q hq
  match k, hq with
  | 0, hq => cases hq; exact k1
  | 1, hq => cases hq; exact k2
  | 2, hq => cases hq; exact k3
  | 3, hq => cases hq; exact k4
  | 4, hq => cases hq; exact k5
  | 5, hq => cases hq; exact k6
  | 6, hq => cases hq; exact k7
  | 7, hq => cases hq; exact k8
  | 8, hq => cases hq; exact k9
  | k + 9, hq => simp [vwCl] at hq
set_option maxRecDepth 20000 in
theorem en_ou {a : Array Value} {s : State} (hts : ∀ w ∈ lw_tbl, w.before a s = true) (hfl : ∀ w ∈ flatC (Jvm.Cond.and given_1 narrow_1), w.before a s = true) : ∃ t : Nat, va_Z RX0 "OTHER_UNITS" "[I" (.ref t) (fun q => s.heap.size ≤ q) s s.heap ∧ va_T .int t 11 (fun j => .int (ah_ou.getD j 0)) (fun q => s.heap.size ≤ q) s s.heap := by
  obtain ⟨t, e, T⟩ := va_Tof (tm := .static RX0 "OTHER_UNITS" "[I") (ty := .int) (N := 11) (f := fun j => .int (ah_ou.getD j 0)) (A := fun q => s.heap.size ≤ q) (by decide) (hfl (.arrayOf (.static RX0 "OTHER_UNITS" "[I") .int) (by decide +kernel)) (va_eqt (hfl (.eq (.length (.static RX0 "OTHER_UNITS" "[I")) (.int 11)) (by decide +kernel))) (fun j hj => by
    rcases (show j = 0 ∨ j = 1 ∨ j = 2 ∨ j = 3 ∨ j = 4 ∨ j = 5 ∨ j = 6 ∨ j = 7 ∨ j = 8 ∨ j = 9 ∨ j = 10 by omega) with rfl | rfl | rfl | rfl | rfl | rfl | rfl | rfl | rfl | rfl | rfl
    · exact va_eqt (hfl (.eq (.elem (.static RX0 "OTHER_UNITS" "[I") (.int 0)) (.int 36)) (by decide +kernel))
    · exact va_eqt (hfl (.eq (.elem (.static RX0 "OTHER_UNITS" "[I") (.int 1)) (.int 64)) (by decide +kernel))
    · exact va_eqt (hfl (.eq (.elem (.static RX0 "OTHER_UNITS" "[I") (.int 2)) (.int 95)) (by decide +kernel))
    · exact va_eqt (hfl (.eq (.elem (.static RX0 "OTHER_UNITS" "[I") (.int 3)) (.int 163)) (by decide +kernel))
    · exact va_eqt (hfl (.eq (.elem (.static RX0 "OTHER_UNITS" "[I") (.int 4)) (.int 165)) (by decide +kernel))
    · exact va_eqt (hfl (.eq (.elem (.static RX0 "OTHER_UNITS" "[I") (.int 5)) (.int 232)) (by decide +kernel))
    · exact va_eqt (hfl (.eq (.elem (.static RX0 "OTHER_UNITS" "[I") (.int 6)) (.int 233)) (by decide +kernel))
    · exact va_eqt (hfl (.eq (.elem (.static RX0 "OTHER_UNITS" "[I") (.int 7)) (.int 167)) (by decide +kernel))
    · exact va_eqt (hfl (.eq (.elem (.static RX0 "OTHER_UNITS" "[I") (.int 8)) (.int 228)) (by decide +kernel))
    · exact va_eqt (hfl (.eq (.elem (.static RX0 "OTHER_UNITS" "[I") (.int 9)) (.int 246)) (by decide +kernel))
    · exact va_eqt (hfl (.eq (.elem (.static RX0 "OTHER_UNITS" "[I") (.int 10)) (.int 252)) (by decide +kernel))) (fun q h => Nat.not_le.mpr h)
  exact ⟨t, va_Zof (hts (.laysStatic RX0 "OTHER_UNITS" "[I") (List.mem_of_getElem? (i := 312) rfl)) (hts (.initialized RX0) (List.mem_of_getElem? (i := 42) rfl)) e (fun q h => Nat.not_le.mpr h), T⟩
set_option maxRecDepth 20000 in
theorem en_os {a : Array Value} {s : State} (hts : ∀ w ∈ lw_tbl, w.before a s = true) (hfl : ∀ w ∈ flatC (Jvm.Cond.and given_1 narrow_1), w.before a s = true) : ∃ t : Nat, va_Z RX0 "OTHER_SEVENS" "[I" (.ref t) (fun q => s.heap.size ≤ q) s s.heap ∧ va_T .int t 11 (fun j => .int (ah_os.getD j 0)) (fun q => s.heap.size ≤ q) s s.heap := by
  obtain ⟨t, e, T⟩ := va_Tof (tm := .static RX0 "OTHER_SEVENS" "[I") (ty := .int) (N := 11) (f := fun j => .int (ah_os.getD j 0)) (A := fun q => s.heap.size ≤ q) (by decide) (hfl (.arrayOf (.static RX0 "OTHER_SEVENS" "[I") .int) (by decide +kernel)) (va_eqt (hfl (.eq (.length (.static RX0 "OTHER_SEVENS" "[I")) (.int 11)) (by decide +kernel))) (fun j hj => by
    rcases (show j = 0 ∨ j = 1 ∨ j = 2 ∨ j = 3 ∨ j = 4 ∨ j = 5 ∨ j = 6 ∨ j = 7 ∨ j = 8 ∨ j = 9 ∨ j = 10 by omega) with rfl | rfl | rfl | rfl | rfl | rfl | rfl | rfl | rfl | rfl | rfl
    · exact va_eqt (hfl (.eq (.elem (.static RX0 "OTHER_SEVENS" "[I") (.int 0)) (.int 2)) (by decide +kernel))
    · exact va_eqt (hfl (.eq (.elem (.static RX0 "OTHER_SEVENS" "[I") (.int 1)) (.int 0)) (by decide +kernel))
    · exact va_eqt (hfl (.eq (.elem (.static RX0 "OTHER_SEVENS" "[I") (.int 2)) (.int 17)) (by decide +kernel))
    · exact va_eqt (hfl (.eq (.elem (.static RX0 "OTHER_SEVENS" "[I") (.int 3)) (.int 1)) (by decide +kernel))
    · exact va_eqt (hfl (.eq (.elem (.static RX0 "OTHER_SEVENS" "[I") (.int 4)) (.int 3)) (by decide +kernel))
    · exact va_eqt (hfl (.eq (.elem (.static RX0 "OTHER_SEVENS" "[I") (.int 5)) (.int 4)) (by decide +kernel))
    · exact va_eqt (hfl (.eq (.elem (.static RX0 "OTHER_SEVENS" "[I") (.int 6)) (.int 5)) (by decide +kernel))
    · exact va_eqt (hfl (.eq (.elem (.static RX0 "OTHER_SEVENS" "[I") (.int 7)) (.int 95)) (by decide +kernel))
    · exact va_eqt (hfl (.eq (.elem (.static RX0 "OTHER_SEVENS" "[I") (.int 8)) (.int 123)) (by decide +kernel))
    · exact va_eqt (hfl (.eq (.elem (.static RX0 "OTHER_SEVENS" "[I") (.int 9)) (.int 124)) (by decide +kernel))
    · exact va_eqt (hfl (.eq (.elem (.static RX0 "OTHER_SEVENS" "[I") (.int 10)) (.int 126)) (by decide +kernel))) (fun q h => Nat.not_le.mpr h)
  exact ⟨t, va_Zof (hts (.laysStatic RX0 "OTHER_SEVENS" "[I") (List.mem_of_getElem? (i := 314) rfl)) (hts (.initialized RX0) (List.mem_of_getElem? (i := 42) rfl)) e (fun q h => Nat.not_le.mpr h), T⟩
set_option maxRecDepth 20000 in
theorem en_eu {a : Array Value} {s : State} (hts : ∀ w ∈ lw_tbl, w.before a s = true) (hfl : ∀ w ∈ flatC (Jvm.Cond.and given_1 narrow_1), w.before a s = true) : ∃ t : Nat, va_Z RX0 "ESCAPED_UNITS" "[I" (.ref t) (fun q => s.heap.size ≤ q) s s.heap ∧ va_T .int t 9 (fun j => .int (ah_eu.getD j 0)) (fun q => s.heap.size ≤ q) s s.heap := by
  obtain ⟨t, e, T⟩ := va_Tof (tm := .static RX0 "ESCAPED_UNITS" "[I") (ty := .int) (N := 9) (f := fun j => .int (ah_eu.getD j 0)) (A := fun q => s.heap.size ≤ q) (by decide) (hfl (.arrayOf (.static RX0 "ESCAPED_UNITS" "[I") .int) (by decide +kernel)) (va_eqt (hfl (.eq (.length (.static RX0 "ESCAPED_UNITS" "[I")) (.int 9)) (by decide +kernel))) (fun j hj => by
    rcases (show j = 0 ∨ j = 1 ∨ j = 2 ∨ j = 3 ∨ j = 4 ∨ j = 5 ∨ j = 6 ∨ j = 7 ∨ j = 8 by omega) with rfl | rfl | rfl | rfl | rfl | rfl | rfl | rfl | rfl
    · exact va_eqt (hfl (.eq (.elem (.static RX0 "ESCAPED_UNITS" "[I") (.int 0)) (.int 94)) (by decide +kernel))
    · exact va_eqt (hfl (.eq (.elem (.static RX0 "ESCAPED_UNITS" "[I") (.int 1)) (.int 123)) (by decide +kernel))
    · exact va_eqt (hfl (.eq (.elem (.static RX0 "ESCAPED_UNITS" "[I") (.int 2)) (.int 125)) (by decide +kernel))
    · exact va_eqt (hfl (.eq (.elem (.static RX0 "ESCAPED_UNITS" "[I") (.int 3)) (.int 92)) (by decide +kernel))
    · exact va_eqt (hfl (.eq (.elem (.static RX0 "ESCAPED_UNITS" "[I") (.int 4)) (.int 91)) (by decide +kernel))
    · exact va_eqt (hfl (.eq (.elem (.static RX0 "ESCAPED_UNITS" "[I") (.int 5)) (.int 126)) (by decide +kernel))
    · exact va_eqt (hfl (.eq (.elem (.static RX0 "ESCAPED_UNITS" "[I") (.int 6)) (.int 93)) (by decide +kernel))
    · exact va_eqt (hfl (.eq (.elem (.static RX0 "ESCAPED_UNITS" "[I") (.int 7)) (.int 124)) (by decide +kernel))
    · exact va_eqt (hfl (.eq (.elem (.static RX0 "ESCAPED_UNITS" "[I") (.int 8)) (.int 8364)) (by decide +kernel))) (fun q h => Nat.not_le.mpr h)
  exact ⟨t, va_Zof (hts (.laysStatic RX0 "ESCAPED_UNITS" "[I") (List.mem_of_getElem? (i := 322) rfl)) (hts (.initialized RX0) (List.mem_of_getElem? (i := 42) rfl)) e (fun q h => Nat.not_le.mpr h), T⟩
set_option maxRecDepth 20000 in
theorem en_es {a : Array Value} {s : State} (hts : ∀ w ∈ lw_tbl, w.before a s = true) (hfl : ∀ w ∈ flatC (Jvm.Cond.and given_1 narrow_1), w.before a s = true) : ∃ t : Nat, va_Z RX0 "ESCAPED_SEVENS" "[I" (.ref t) (fun q => s.heap.size ≤ q) s s.heap ∧ va_T .int t 9 (fun j => .int (ah_es.getD j 0)) (fun q => s.heap.size ≤ q) s s.heap := by
  obtain ⟨t, e, T⟩ := va_Tof (tm := .static RX0 "ESCAPED_SEVENS" "[I") (ty := .int) (N := 9) (f := fun j => .int (ah_es.getD j 0)) (A := fun q => s.heap.size ≤ q) (by decide) (hfl (.arrayOf (.static RX0 "ESCAPED_SEVENS" "[I") .int) (by decide +kernel)) (va_eqt (hfl (.eq (.length (.static RX0 "ESCAPED_SEVENS" "[I")) (.int 9)) (by decide +kernel))) (fun j hj => by
    rcases (show j = 0 ∨ j = 1 ∨ j = 2 ∨ j = 3 ∨ j = 4 ∨ j = 5 ∨ j = 6 ∨ j = 7 ∨ j = 8 by omega) with rfl | rfl | rfl | rfl | rfl | rfl | rfl | rfl | rfl
    · exact va_eqt (hfl (.eq (.elem (.static RX0 "ESCAPED_SEVENS" "[I") (.int 0)) (.int 20)) (by decide +kernel))
    · exact va_eqt (hfl (.eq (.elem (.static RX0 "ESCAPED_SEVENS" "[I") (.int 1)) (.int 40)) (by decide +kernel))
    · exact va_eqt (hfl (.eq (.elem (.static RX0 "ESCAPED_SEVENS" "[I") (.int 2)) (.int 41)) (by decide +kernel))
    · exact va_eqt (hfl (.eq (.elem (.static RX0 "ESCAPED_SEVENS" "[I") (.int 3)) (.int 47)) (by decide +kernel))
    · exact va_eqt (hfl (.eq (.elem (.static RX0 "ESCAPED_SEVENS" "[I") (.int 4)) (.int 60)) (by decide +kernel))
    · exact va_eqt (hfl (.eq (.elem (.static RX0 "ESCAPED_SEVENS" "[I") (.int 5)) (.int 61)) (by decide +kernel))
    · exact va_eqt (hfl (.eq (.elem (.static RX0 "ESCAPED_SEVENS" "[I") (.int 6)) (.int 62)) (by decide +kernel))
    · exact va_eqt (hfl (.eq (.elem (.static RX0 "ESCAPED_SEVENS" "[I") (.int 7)) (.int 64)) (by decide +kernel))
    · exact va_eqt (hfl (.eq (.elem (.static RX0 "ESCAPED_SEVENS" "[I") (.int 8)) (.int 101)) (by decide +kernel))) (fun q h => Nat.not_le.mpr h)
  exact ⟨t, va_Zof (hts (.laysStatic RX0 "ESCAPED_SEVENS" "[I") (List.mem_of_getElem? (i := 324) rfl)) (hts (.initialized RX0) (List.mem_of_getElem? (i := 42) rfl)) e (fun q h => Nat.not_le.mpr h), T⟩
set_option maxRecDepth 20000 in
theorem en_XS {a : Array Value} {s : State} (hts : ∀ w ∈ lw_tbl, w.before a s = true) : ah_XS s := by
  obtain ⟨c8, i8, -, k8⟩ := u_known (C := RX8) (T := TX8) (N := 5) (n := 5) hts inX8 (hts (.instantiable RX8 5) (List.mem_of_getElem? (i := 50) rfl))
  have hc : s.vm.findClass RX8 = some c8 := k8.1
  have w46 := hts (.stringRef RX8 46 "a unit is 0 .. 65535") (List.mem_of_getElem? (i := 255) rfl)
  obtain ⟨-, -, -, a46, -, -, -, -, -, e46⟩ := Cond.stringRef_spec hc w46
  have w56 := hts (.stringRef RX8 56 "the text is full") (List.mem_of_getElem? (i := 291) rfl)
  obtain ⟨-, -, -, a56, -, -, -, -, -, e56⟩ := Cond.stringRef_spec hc w56
  have w87 := hts (.stringRef RX8 87 "what is 0 .. 7") (List.mem_of_getElem? (i := 375) rfl)
  obtain ⟨-, -, -, a87, -, -, -, -, -, e87⟩ := Cond.stringRef_spec hc w87
  have w91 := hts (.stringRef RX8 91 "more than 255 parts") (List.mem_of_getElem? (i := 393) rfl)
  obtain ⟨-, -, -, a91, -, -, -, -, -, e91⟩ := Cond.stringRef_spec hc w91
  have w102 := hts (.stringRef RX8 102 "no such part") (List.mem_of_getElem? (i := 467) rfl)
  obtain ⟨-, -, -, a102, -, -, -, -, -, e102⟩ := Cond.stringRef_spec hc w102
  have w112 := hts (.stringRef RX8 112 "no such part or sender") (List.mem_of_getElem? (i := 486) rfl)
  obtain ⟨-, -, -, a112, -, -, -, -, -, e112⟩ := Cond.stringRef_spec hc w112
  have w118 := hts (.stringRef RX8 118 "no such part or byte") (List.mem_of_getElem? (i := 629) rfl)
  obtain ⟨-, -, -, a118, -, -, -, -, -, e118⟩ := Cond.stringRef_spec hc w118
  have w124 := hts (.stringRef RX8 124 "n is 0 .. 8") (List.mem_of_getElem? (i := 638) rfl)
  obtain ⟨-, -, -, a124, -, -, -, -, -, e124⟩ := Cond.stringRef_spec hc w124
  have w126 := hts (.stringRef RX8 126 "more than 200 bytes at hand") (List.mem_of_getElem? (i := 639) rfl)
  obtain ⟨-, -, -, a126, -, -, -, -, -, e126⟩ := Cond.stringRef_spec hc w126
  have w129 := hts (.stringRef RX8 129 "a sender is 0 .. 999") (List.mem_of_getElem? (i := 651) rfl)
  obtain ⟨-, -, -, a129, -, -, -, -, -, e129⟩ := Cond.stringRef_spec hc w129
  have w137 := hts (.stringRef RX8 137 "what is 0 .. 3") (List.mem_of_getElem? (i := 660) rfl)
  obtain ⟨-, -, -, a137, -, -, -, -, -, e137⟩ := Cond.stringRef_spec hc w137
  exact ⟨⟨a46, vk_R.of w46 e46⟩, ⟨a56, vk_R.of w56 e56⟩, ⟨a87, vk_R.of w87 e87⟩, ⟨a91, vk_R.of w91 e91⟩, ⟨a102, vk_R.of w102 e102⟩, ⟨a112, vk_R.of w112 e112⟩, ⟨a118, vk_R.of w118 e118⟩, ⟨a124, vk_R.of w124 e124⟩, ⟨a126, vk_R.of w126 e126⟩, ⟨a129, vk_R.of w129 e129⟩, ⟨a137, vk_R.of w137 e137⟩⟩
set_option maxRecDepth 20000 in
theorem en_XW {a : Array Value} {s : State} (hts : ∀ w ∈ lw_tbl, w.before a s = true) : ah_XW s := ⟨va_Nw.of rfl (hts (.declares nRT) (List.mem_of_getElem? (i := 218) rfl)), va_Nw.of rfl (hts (.declares nEX) (List.mem_of_getElem? (i := 220) rfl)), va_Nw.of rfl (hts (.declares nTH) (List.mem_of_getElem? (i := 222) rfl)), va_Nw.of rfl (hts (.castable eIA eIA) (List.mem_of_getElem? (i := 216) rfl)), va_Nw.of rfl (hts (.castable eIS eIS) (List.mem_of_getElem? (i := 284) rfl)), va_Nw.of rfl (hts (.castable eUO eUO) (List.mem_of_getElem? (i := 386) rfl))⟩
set_option maxRecDepth 20000 in
theorem en_G {a : Array Value} {s : State} (hts : ∀ w ∈ lw_tbl, w.before a s = true) (hfl : ∀ w ∈ flatC (Jvm.Cond.and given_1 narrow_1), w.before a s = true) : ∃ G : ah_G, G.1 = s.heap.size ∧ ah_E G s ∧ ah_X G s ∧ va_Nc eIS eIA s := by
  obtain ⟨dC, dI, hK⟩ := en_K hts
  obtain ⟨cI, i1, i2⟩ := en_prim (hts (.arrayClass .int) (List.mem_of_getElem? (i := 79) rfl))
  obtain ⟨cJ, j1, j2⟩ := en_prim (hts (.arrayClass .long) (List.mem_of_getElem? (i := 896) rfl))
  have wh := hts (.arrayOver (.object "TextParts$Heap")) (List.mem_of_getElem? (i := 150) rfl)
  have wp := hts (.arrayOver (.object "TextParts$Piece")) (List.mem_of_getElem? (i := 583) rfl)
  have wr := hts (.arrayOver (.object "TextParts$Row")) (List.mem_of_getElem? (i := 87) rfl)
  obtain ⟨cH, h1, h2⟩ := en_obj wh
  obtain ⟨cP, p1, p2⟩ := en_obj wp
  obtain ⟨cR, r1, r2⟩ := en_obj wr
  obtain ⟨t0, z0, a0⟩ := en_ou hts hfl
  obtain ⟨t1, z1, a1⟩ := en_os hts hfl
  obtain ⟨t2, z2, a2⟩ := en_eu hts hfl
  obtain ⟨t3, z3, a3⟩ := en_es hts hfl
  refine ⟨(s.heap.size, (dC, dI), (fun k => match k with | 0 => cI | 1 => cH | 2 => cP | 3 => cR | _ => cJ), (fun k => match k with | 0 => t0 | 1 => t1 | 2 => t2 | _ => t3)), rfl, ?_, ?_, ?_⟩
  · refine ⟨Nat.le_refl _, ⟨hK, fun k q hq => ?_⟩, ⟨va_AO.of wh, va_AO.of wp, va_AO.of wr⟩, ⟨va_Nw.of rfl (hts (.methodLinkNest RX8 9 yX7_init "TextParts") (List.mem_of_getElem? (i := 59) rfl)), va_Nw.of rfl (hts (.methodLinkNest RX8 18 yX3_init "TextParts") (List.mem_of_getElem? (i := 82) rfl)), va_Nw.of rfl (hts (.methodLinkNest RX8 34 yX2_init "TextParts") (List.mem_of_getElem? (i := 113) rfl)), va_Nw.of rfl (hts (.methodLinkNest RX2 11 yX4_init "TextParts") (List.mem_of_getElem? (i := 119) rfl)), va_Nw.of rfl (hts (.methodLinkNest RX3 52 yX8_bytesForSevens "TextParts") (List.mem_of_getElem? (i := 414) rfl)), va_Nw.of rfl (hts (.methodLinkNest RX4 59 yX8_bytesForSevens "TextParts") (List.mem_of_getElem? (i := 500) rfl)), va_Nw.of rfl (hts (.castable "[I" "java/lang/Cloneable") (List.mem_of_getElem? (i := 544) rfl))⟩, ⟨z0, a0⟩, ⟨z1, a1⟩, ⟨z2, a2⟩, ⟨z3, a3⟩⟩
    match k, hq with
    | 0, hq => cases hq; exact ⟨i1, i2⟩
    | 1, hq => cases hq; exact ⟨h1, h2⟩
    | 2, hq => cases hq; exact ⟨p1, p2⟩
    | 3, hq => cases hq; exact ⟨r1, r2⟩
    | 4, hq => cases hq; exact ⟨j1, j2⟩
    | k + 5, hq => simp [ah_tys] at hq
  · exact ⟨vx_Zqof (hts (.laysStatic Bundle.tN "UNASSIGNED_STACK" Bundle.steD) (List.mem_of_getElem? (i := 241) rfl)) (hts (.initialized "java/lang/Throwable") (List.mem_of_getElem? (i := 37) rfl)) (hfl (.isRef (.static Bundle.tN "UNASSIGNED_STACK" Bundle.steD)) (by decide +kernel)) (fun q h => Nat.not_le.mpr h), vx_Zqof (hts (.laysStatic Bundle.tN "SUPPRESSED_SENTINEL" Bundle.listD) (List.mem_of_getElem? (i := 243) rfl)) (hts (.initialized "java/lang/Throwable") (List.mem_of_getElem? (i := 37) rfl)) (hfl (.isRef (.static Bundle.tN "SUPPRESSED_SENTINEL" Bundle.listD)) (by decide +kernel)) (fun q h => Nat.not_le.mpr h), en_XW hts, en_XS hts⟩
  · exact va_Nc.of (hfl (.not (.castable eIS eIA)) (by decide +kernel))