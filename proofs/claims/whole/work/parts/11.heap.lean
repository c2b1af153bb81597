/-! ===== the heap as a function: an address holds a mark (whose it is) and a thing; one row an instruction ===== -/
abbrev ah_H : Type := Nat → Option (Nat × va_E)
def ah_up (h : ah_H) (a : Nat) (x : Nat × va_E) : ah_H := fun q => if q = a then some x else h q
theorem ah_up_s (h : ah_H) (a : Nat) (x : Nat × va_E) : ah_up h a x a = some x := if_pos rfl
theorem ah_up_n {h : ah_H} {a q : Nat} {x : Nat × va_E} (hq : q ≠ a) : ah_up h a x q = h q := if_neg hq
theorem ah_up2 (h : ah_H) (a : Nat) (x y : Nat × va_E) : ah_up (ah_up h a x) a y = ah_up h a y := by
  funext q
  by_cases hq : q = a
  · subst hq; rw [ah_up_s, ah_up_s]
  · rw [ah_up_n hq, ah_up_n hq, ah_up_n hq]
theorem ah_up_id {h : ah_H} {a : Nat} {x : Nat × va_E} (ha : h a = some x) : ah_up h a x = h := by
  funext q
  by_cases hq : q = a
  · subst hq; rw [ah_up_s, ha]
  · rw [ah_up_n hq]
/-- two marks, two addresses -/
theorem ah_ne {h : ah_H} {a b t u : Nat} {x y : va_E} (ha : h a = some (t, x)) (hb : h b = some (u, y)) (hne : t ≠ u) : a ≠ b := fun e => by
  subst e
  rw [ha] at hb
  exact hne (congrArg Prod.fst (Option.some.inj hb))
theorem ah_keep {h : ah_H} {a b t u : Nat} {x y : va_E} {z : Nat × va_E} (hb : h b = some (u, y)) (ha : h a = some (t, x)) (hne : u ≠ t) : ah_up h a z b = some (u, y) := by
  rw [ah_up_n (ah_ne hb ha hne)]; exact hb
theorem ah_new {h : ah_H} {a b u : Nat} {y : va_E} {z : Nat × va_E} (hb : h b = some (u, y)) (ha : h a = none) : ah_up h a z b = some (u, y) := by
  rw [ah_up_n (fun e => by subst e; rw [ha] at hb; cases hb)]; exact hb
/-- what all methods are told: the lowest address that is ours, the classes' numbers, the array classes' numbers, where the four tables lie -/
abbrev ah_G : Type := Nat × va_G × (Nat → ClassId) × (Nat → Nat)
abbrev ah_A (G : ah_G) : Nat → Prop := fun q => G.1 ≤ q
abbrev ah_tys (G : ah_G) : List (ClassId × FieldType) := [(G.2.2.1 0, .int), (G.2.2.1 1, .object "TextParts$Heap"), (G.2.2.1 2, .object "TextParts$Piece"), (G.2.2.1 3, .object "TextParts$Row"), (G.2.2.1 4, .long)]
def ah_R (G : ah_G) (h : ah_H) (H : Heap) : Prop := ∃ ws : va_W, va_P G.2.1 vwCl ws H ∧ va_D (ah_A G) ws ∧ ∀ (a t : Nat) (e : va_E), h a = some (t, e) → ∃ k : Nat, ws[k]? = some (a, e)
theorem ah_cset {h : ah_H} {ws : va_W} {a t k : Nat} {e0 e : va_E} (hc : ∀ (a t : Nat) (e : va_E), h a = some (t, e) → ∃ k : Nat, ws[k]? = some (a, e)) (hk : ws[k]? = some (a, e0)) :
    ∀ (b u : Nat) (y : va_E), ah_up h a (t, e) b = some (u, y) → ∃ j : Nat, (ws.set k (a, e))[j]? = some (b, y) := by
  intro b u y hb
  have hl := (List.getElem?_eq_some_iff.mp hk).1
  by_cases hq : b = a
  · subst hq
    rw [ah_up_s] at hb
    cases hb
    exact ⟨k, by rw [List.getElem?_set_self hl]⟩
  · rw [ah_up_n hq] at hb
    obtain ⟨j, hj⟩ := hc b u y hb
    refine ⟨j, ?_⟩
    rw [List.getElem?_set_ne (fun e => by subst e; rw [hk] at hj; cases hj; exact hq rfl)]
    exact hj
theorem ah_cpush {h : ah_H} {ws : va_W} {a t : Nat} {e : va_E} (hc : ∀ (a t : Nat) (e : va_E), h a = some (t, e) → ∃ k : Nat, ws[k]? = some (a, e)) :
    ∀ (b u : Nat) (y : va_E), ah_up h a (t, e) b = some (u, y) → ∃ j : Nat, (ws ++ [(a, e)])[j]? = some (b, y) := by
  intro b u y hb
  by_cases hq : b = a
  · subst hq
    rw [ah_up_s] at hb
    cases hb
    exact ⟨ws.length, by simp⟩
  · rw [ah_up_n hq] at hb
    obtain ⟨j, hj⟩ := hc b u y hb
    exact ⟨j, by rw [List.getElem?_append_left (List.getElem?_eq_some_iff.mp hj).1]; exact hj⟩
theorem ah_fresh {A : Nat → Prop} {h : ah_H} {ws : va_W} {q : Nat} {e : va_E} (hc : ∀ (a t : Nat) (e : va_E), h a = some (t, e) → ∃ k : Nat, ws[k]? = some (a, e)) (hD : va_D A (ws ++ [(q, e)])) : h q = none := by
  cases hq : h q with
  | none => rfl
  | some x =>
    obtain ⟨k, hk⟩ := hc q x.1 x.2 hq
    have hl := (List.getElem?_eq_some_iff.mp hk).1
    have h1 : (ws ++ [(q, e)])[k]? = some (q, x.2) := by rw [List.getElem?_append_left hl]; exact hk
    have h2 : (ws ++ [(q, e)])[ws.length]? = some (q, e) := by simp
    have := hD.1 _ _ _ _ h1 h2 rfl
    omega
/-- the four tables of the alphabet -/
abbrev ah_ou : List Int32 := [36, 64, 95, 163, 165, 232, 233, 167, 228, 246, 252]
abbrev ah_os : List Int32 := [2, 0, 17, 1, 3, 4, 5, 95, 123, 124, 126]
abbrev ah_eu : List Int32 := [94, 123, 125, 92, 91, 126, 93, 124, 8364]
abbrev ah_es : List Int32 := [20, 40, 41, 47, 60, 61, 62, 64, 101]
def ah_ZT (G : ah_G) (k : Nat) (n : String) (xs : List Int32) (U : State) : Prop := va_Z RX0 n "[I" (.ref (G.2.2.2 k)) (ah_A G) U U.heap ∧ va_T .int (G.2.2.2 k) xs.length (fun j => .int (xs.getD j 0)) (ah_A G) U U.heap
/-- what holds of every state in which a method of ours begins -/
def ah_E (G : ah_G) (U : State) : Prop :=
  G.1 ≤ U.heap.size ∧ va_K G.2.1 vwCl (ah_tys G) U ∧ (va_AO "TextParts$Heap" U ∧ va_AO "TextParts$Piece" U ∧ va_AO "TextParts$Row" U) ∧
  (va_Nw (.methodLinkNest RX8 9 yX7_init "TextParts") U ∧ va_Nw (.methodLinkNest RX8 18 yX3_init "TextParts") U ∧ va_Nw (.methodLinkNest RX8 34 yX2_init "TextParts") U ∧ va_Nw (.methodLinkNest RX2 11 yX4_init "TextParts") U ∧ va_Nw (.methodLinkNest RX3 52 yX8_bytesForSevens "TextParts") U ∧ va_Nw (.methodLinkNest RX4 59 yX8_bytesForSevens "TextParts") U ∧ va_Nw (.castable "[I" "java/lang/Cloneable") U) ∧
  ah_ZT G 0 "OTHER_UNITS" ah_ou U ∧ ah_ZT G 1 "OTHER_SEVENS" ah_os U ∧ ah_ZT G 2 "ESCAPED_UNITS" ah_eu U ∧ ah_ZT G 3 "ESCAPED_SEVENS" ah_es U
theorem ah_ZT.at {G : ah_G} {k : Nat} {n : String} {xs : List Int32} {s U : State} {locs : List Loc} (h : ah_ZT G k n xs s) (hS : va_S (ah_A G) s.heap U.heap locs) (hvm : s.vm.Alike U.vm) : ah_ZT G k n xs U :=
  ⟨va_Z.moved hvm (h.1.kept hS.2.1), va_T.moved hvm (h.2.kept hS.2.1)⟩
theorem ah_E.at {G : ah_G} {s U : State} {H : Heap} {locs : List Loc} (h : ah_E G s) (hS : va_S (ah_A G) s.heap H locs) (hU : U.heap = H) (hW : s.WarmedH U.vm) : ah_E G U := by
  subst hU
  obtain ⟨h1, h2, ⟨a1, a2, a3⟩, ⟨n1, n2, n3, n4, n5, n6, n7⟩, z1, z2, z3, z4⟩ := h
  have hv := hW.alike
  exact ⟨Nat.le_trans h1 hS.1, va_K.moved hv h2, ⟨va_AO.moved hv a1, va_AO.moved hv a2, va_AO.moved hv a3⟩, ⟨va_Nw.warmM hW n1, va_Nw.warmM hW n2, va_Nw.warmM hW n3, va_Nw.warmM hW n4, va_Nw.warmM hW n5, va_Nw.warmM hW n6, va_Nw.warmC hW n7⟩, z1.at hS hv, z2.at hS hv, z3.at hS hv, z4.at hS hv⟩
theorem ah_E.calling {G : ah_G} {U : State} (g : JFrame) (mk : MethodId) (a : Array Value) (h : ah_E G U) : ah_E G (U.calling g mk a) := by
  obtain ⟨h1, h2, ⟨a1, a2, a3⟩, ⟨n1, n2, n3, n4, n5, n6, n7⟩, z1, z2, z3, z4⟩ := h
  have hv : U.vm.Alike (U.calling g mk a).vm := Vm.Alike.refl U.vm
  have hS : va_S (ah_A G) U.heap (U.calling g mk a).heap [] := va_S.rf
  exact ⟨h1, va_K.moved hv h2, ⟨va_AO.moved hv a1, va_AO.moved hv a2, va_AO.moved hv a3⟩, ⟨va_Nw.same rfl rfl n1, va_Nw.same rfl rfl n2, va_Nw.same rfl rfl n3, va_Nw.same rfl rfl n4, va_Nw.same rfl rfl n5, va_Nw.same rfl rfl n6, va_Nw.same rfl rfl n7⟩, z1.at hS hv, z2.at hS hv, z3.at hS hv, z4.at hS hv⟩
theorem ah_E.A {G : ah_G} {s : State} (h : ah_E G s) : ∀ q : Nat, s.heap.size ≤ q → ah_A G q := fun _ hq => Nat.le_trans h.1 hq
/-- a contract's start and end -/
def ah_P (G : ah_G) (h : ah_H) (U : State) : Prop := ah_E G U ∧ ah_R G h U.heap
def ah_Pc (G : ah_G) (av : List Value) (h : ah_H) : Array Value → State → Prop := va_Pc av (ah_P G h)
def ah_B (G : ah_G) (h : ah_H) (t : State) : Prop := ah_R G h t.heap
abbrev ah_Qi (G : ah_G) (post : Int32 → ah_H → Prop) : Array Value → State → Outcome → State → Prop := va_Qi post (ah_B G) (ah_A G)
abbrev ah_Qv (G : ah_G) (post : ah_H → Prop) : Array Value → State → Outcome → State → Prop := va_Qv post (ah_B G) (ah_A G)
abbrev ah_Qq (G : ah_G) (post : Option Nat → ah_H → Prop) : Array Value → State → Outcome → State → Prop := va_Qq post (ah_B G) (ah_A G)
theorem ah_blind {G : ah_G} {av : List Value} {h : ah_H} : FrameBlind (ah_Pc G av h) := fun a U g mk q => ⟨q.1, ah_E.calling g mk a q.2.1, q.2.2⟩
theorem ah_preS {G : ah_G} {av : List Value} {h : ah_H} {s : State} {H : Heap} {locs : List Loc} (hE : ah_E G s) (hR : ah_R G h H) (hS : va_S (ah_A G) s.heap H locs) : PreS s H (ah_Pc G av h) av :=
  ⟨ah_blind, fun U hU hW => ⟨rfl, hE.at hS hU hW, by rw [hU]; exact hR⟩⟩
theorem ah_preV {G : ah_G} {As : List Value} {h : ah_H} {s : State} {H : Heap} {locs : List Loc} {b t ci : Nat} {fs : List Value} {q : vw_C} (hE : ah_E G s) (hR : ah_R G h H) (hS : va_S (ah_A G) s.heap H locs) (hb : h b = some (t, .inr (ci, fs))) (hc : vwCl[ci]? = some q) : PreV s H q.1 b (ah_Pc G (.ref b :: As) h) As := by
  refine ⟨ah_blind, ?_, fun U hU hW => ⟨rfl, hE.at hS hU hW, by rw [hU]; exact hR⟩⟩
  obtain ⟨ws, hP, hD, hcv⟩ := hR
  obtain ⟨k, hk⟩ := hcv b t _ hb
  exact va_recv hE.2.1 hP hc hk
/-- an array of ints by another function that agrees within -/
theorem ah_cong {G : ah_G} {h : ah_H} {H : Heap} {a t n : Nat} {cA : ClassId} {f g : Nat → Int32} (hR : ah_R G h H) (ha : h a = some (t, .inl (cA, n, .inl f))) (hfg : ∀ j, j < n → f j = g j) : ah_R G (ah_up h a (t, .inl (cA, n, .inl g))) H := by
  obtain ⟨ws, hP, hD, hcv⟩ := hR
  obtain ⟨q0, he⟩ := hcv a t _ ha
  refine ⟨_, hP.set hD he (e := .inl (cA, n, .inl g)) ?_ (fun _ _ => rfl), hD.set he, ah_cset hcv he⟩
  have h1 : H[a]? = some (vp_cell cA (n, .inl f)) := hP q0 _ he
  have e1 : vp_cell cA (n, .inl f) = vp_cell cA (n, .inl g) := by
    rw [vp_cell_i, vp_cell_i]
    unfold arrV
    congr 1
    congr 1
    funext j
    show Value.int (f j.val) = Value.int (g j.val)
    rw [hfg j.val j.isLt]
  show H[a]? = some (vp_cell cA (n, .inl g))
  rw [← e1]; exact h1
section AHR
variable {p : Program} {l : Launch} {e : Env} {R : Room} {s : State} {m : MethodId} {args : Array Value} {below : List Frame} {meth : Method} {c : Code} {H : Heap} {locs : List Loc} {cells slots : Nat} {Q : State → Prop}
variable {cc : ByteArray} {pc : Nat} {ls : Array Slot} {rest st0 : List Value} {G : ah_G} {h : ah_H} {a t : Nat} {mc ms : Nat} {av : Array Value}
theorem ah_calli {post : Int32 → ah_H → Prop} (hr : va_Run p l e R s m args below meth c H locs cells slots mc ms (F0 m pc ls st0) rest (ah_Qi G post av) (ah_A G)) (hS : va_S (ah_A G) s.heap H locs)
    (kk : ∀ (r : Int32) (h1 : ah_H) (H1 : Heap) (locs1 : List Loc), post r h1 → ah_R G h1 H1 → va_S (ah_A G) s.heap H1 locs1 → W p l e R s m args below meth c H1 locs1 (cells + mc) (slots + ms) Q (F0 m (pc + 3) ls (.int r :: rest))) : W p l e R s m args below meth c H locs cells slots Q (F0 m pc ls st0) :=
  va_calli hr hS (fun _ _ z => z) (fun _ z => z) (fun r u t H1 locs1 ht _ hp hB _ _ hS1 => kk r u H1 locs1 hp (by subst ht; exact hB) hS1)
theorem ah_callv {post : ah_H → Prop} (hr : va_Run p l e R s m args below meth c H locs cells slots mc ms (F0 m pc ls st0) rest (ah_Qv G post av) (ah_A G)) (hS : va_S (ah_A G) s.heap H locs)
    (kk : ∀ (h1 : ah_H) (H1 : Heap) (locs1 : List Loc), post h1 → ah_R G h1 H1 → va_S (ah_A G) s.heap H1 locs1 → W p l e R s m args below meth c H1 locs1 (cells + mc) (slots + ms) Q (F0 m (pc + 3) ls rest)) : W p l e R s m args below meth c H locs cells slots Q (F0 m pc ls st0) :=
  va_callv hr hS (fun _ _ z => z) (fun _ z => z) (fun u t H1 locs1 ht _ hp hB _ _ hS1 => kk u H1 locs1 hp (by subst ht; exact hB) hS1)
theorem ah_callq {post : Option Nat → ah_H → Prop} (hr : va_Run p l e R s m args below meth c H locs cells slots mc ms (F0 m pc ls st0) rest (ah_Qq G post av) (ah_A G)) (hS : va_S (ah_A G) s.heap H locs)
    (kk : ∀ (r : Option Nat) (h1 : ah_H) (H1 : Heap) (locs1 : List Loc), post r h1 → ah_R G h1 H1 → va_S (ah_A G) s.heap H1 locs1 → W p l e R s m args below meth c H1 locs1 (cells + mc) (slots + ms) Q (F0 m (pc + 3) ls (va_rf r :: rest))) : W p l e R s m args below meth c H locs cells slots Q (F0 m pc ls st0) :=
  va_callq hr hS (fun _ _ z => z) (fun _ z => z) (fun r u t H1 locs1 ht _ hp hB _ _ hS1 => kk r u H1 locs1 hp (by subst ht; exact hB) hS1)
/-- a number on top, by another name -/
theorem ah_toi {x v : Int32} (hv : x = v) (k : W p l e R s m args below meth c H locs cells slots Q (F0 m pc ls (.int v :: rest))) : W p l e R s m args below meth c H locs cells slots Q (F0 m pc ls (.int x :: rest)) := by subst hv; exact k
theorem ah_get (hx : p.tables.exec = Jvm.exec) (hb : c.code = cc) (hE : ah_E G s) (hR : ah_R G h H) {own ref C : String} {T : u_T} {N ci index : Nat} {Ts : List Cond} (hts : ∀ w ∈ Ts, w.before args s = true) (hin : ∀ w ∈ u_ws C T N, w ∈ Ts) (hown : s.vm.findClass own = some m.cls) {fs : List Value} (ha : h a = some (t, .inr (ci, fs))) (hc : vwCl[ci]? = some (C, T, N)) (k : Nat) (hk : k < N) (hlink : (Cond.fieldLink own index ref (T k).2.1 (T k).2.2.1).before args s = true) (hsame : ∀ x, s.fieldFound? (T k).1 (T k).2.1 (T k).2.2.1 = some x → s.fieldFound? ref (T k).2.1 (T k).2.2.1 = some x) {v : Value} (hv : fs[k]? = some v) (hdg : decode cc pc = .ok (.getfield index, 3))
    (kk : W p l e R s m args below meth c H locs cells slots Q (F0 m (pc + 3) ls (v :: rest))) : W p l e R s m args below meth c H locs cells slots Q (F0 m pc ls (.ref a :: rest)) := by
  obtain ⟨ws, hP, hD, hcv⟩ := hR
  obtain ⟨q0, he⟩ := hcv a t _ ha
  exact va_get hx hb hts hin hown hE.2.1 hP q0 he hc k hk hlink hsame hv hdg kk
theorem ah_put (hx : p.tables.exec = Jvm.exec) (hb : c.code = cc) (hE : ah_E G s) (hR : ah_R G h H) (hS : va_S (ah_A G) s.heap H locs) {own ref C : String} {T : u_T} {N ci index : Nat} {Ts : List Cond} (hts : ∀ w ∈ Ts, w.before args s = true) (hin : ∀ w ∈ u_ws C T N, w ∈ Ts) (ty0 : Nat → FieldType) (hty : ∀ k, k < N → parseFieldDescriptor (T k).2.2.1 = some (ty0 k)) (hnm : ∀ a, a < N → ∀ b, b < N → a ≠ b → (T a).2.1 ≠ (T b).2.1) (hown : s.vm.findClass own = some m.cls) {fs : List Value} (ha : h a = some (t, .inr (ci, fs))) (hc : vwCl[ci]? = some (C, T, N)) (k : Nat) (hk : k < N) (hlink : (Cond.fieldLink own index ref (T k).2.1 (T k).2.2.1).before args s = true) (hsame : ∀ x, s.fieldFound? (T k).1 (T k).2.1 (T k).2.2.1 = some x → s.fieldFound? ref (T k).2.1 (T k).2.2.1 = some x) (hfin : (T k).2.2.2 = false) {ty : FieldType} {v : Value} (hd : parseFieldDescriptor (T k).2.2.1 = some ty) (hn : narrow ty v = v) (hfit : fits ty v = true) (hl : k < fs.length)
    (hdg : decode cc pc = .ok (.putfield index, 3)) (kk : ∀ (H1 : Heap) (locs1 : List Loc), ah_R G (ah_up h a (t, .inr (ci, fs.set k v))) H1 → va_S (ah_A G) s.heap H1 locs1 → W p l e R s m args below meth c H1 locs1 cells slots Q (F0 m (pc + 3) ls rest)) : W p l e R s m args below meth c H locs cells slots Q (F0 m pc ls (v :: .ref a :: rest)) := by
  obtain ⟨ws, hP, hD, hcv⟩ := hR
  obtain ⟨q0, he⟩ := hcv a t _ ha
  exact va_put hx hb hts hin ty0 hty hnm hown hE.2.1 hP hD hS q0 he hc k hk hlink hsame hfin hd hn hfit hl hdg (fun H1 locs1 hP1 hD1 hS1 => kk H1 locs1 ⟨_, hP1, hD1, ah_cset hcv he⟩ hS1)
theorem ah_putF (hx : p.tables.exec = Jvm.exec) (hb : c.code = cc) (hE : ah_E G s) (hR : ah_R G h H) (hS : va_S (ah_A G) s.heap H locs) {own ref C : String} {T : u_T} {N ci index : Nat} {Ts : List Cond} (hts : ∀ w ∈ Ts, w.before args s = true) (hin : ∀ w ∈ u_ws C T N, w ∈ Ts) (ty0 : Nat → FieldType) (hty : ∀ k, k < N → parseFieldDescriptor (T k).2.2.1 = some (ty0 k)) (hnm : ∀ a, a < N → ∀ b, b < N → a ≠ b → (T a).2.1 ≠ (T b).2.1) (hown : s.vm.findClass own = some m.cls) {fs : List Value} (ha : h a = some (t, .inr (ci, fs))) (hc : vwCl[ci]? = some (C, T, N)) (k : Nat) (hk : k < N) (hlink : (Cond.fieldLink own index ref (T k).2.1 (T k).2.2.1).before args s = true) (hsame : ∀ x, s.fieldFound? (T k).1 (T k).2.1 (T k).2.2.1 = some x → s.fieldFound? ref (T k).2.1 (T k).2.2.1 = some x) (hfin : (T k).2.2.2 = true) (hin2 : meth.name = "<init>") (hdecl : (T k).1 = own) {ty : FieldType} {v : Value} (hd : parseFieldDescriptor (T k).2.2.1 = some ty) (hn : narrow ty v = v) (hfit : fits ty v = true) (hl : k < fs.length)
    (hdg : decode cc pc = .ok (.putfield index, 3)) (kk : ∀ (H1 : Heap) (locs1 : List Loc), ah_R G (ah_up h a (t, .inr (ci, fs.set k v))) H1 → va_S (ah_A G) s.heap H1 locs1 → W p l e R s m args below meth c H1 locs1 cells slots Q (F0 m (pc + 3) ls rest)) : W p l e R s m args below meth c H locs cells slots Q (F0 m pc ls (v :: .ref a :: rest)) := by
  obtain ⟨ws, hP, hD, hcv⟩ := hR
  obtain ⟨q0, he⟩ := hcv a t _ ha
  exact va_putF hx hb hts hin ty0 hty hnm hown hE.2.1 hP hD hS q0 he hc k hk hlink hsame hfin hin2 hdecl hd hn hfit hl hdg (fun H1 locs1 hP1 hD1 hS1 => kk H1 locs1 ⟨_, hP1, hD1, ah_cset hcv he⟩ hS1)
/-- an array of ints, read, written, its length: indices as naturals -/
theorem ah_iald (hx : p.tables.exec = Jvm.exec) (hb : c.code = cc) (hE : ah_E G s) (hR : ah_R G h H) {n i : Nat} {f : Nat → Int32} (ha : h a = some (t, .inl (G.2.2.1 0, n, .inl f))) (hi : i < n) (hn : n < 2 ^ 31) (hdg : decode cc pc = .ok (.iaload, 1))
    (kk : W p l e R s m args below meth c H locs cells slots Q (F0 m (pc + 1) ls (.int (f i) :: rest))) : W p l e R s m args below meth c H locs cells slots Q (F0 m pc ls (.int (nI i) :: .ref a :: rest)) := by
  obtain ⟨ws, hP, hD, hcv⟩ := hR
  obtain ⟨q0, he⟩ := hcv a t _ ha
  exact va_iald hx hb hE.2.1 hP q0 0 he rfl (vp_in_nI hi hn) hdg (by rw [nI_clamp (Nat.lt_trans hi hn)]; exact kk)
theorem ah_iast (hx : p.tables.exec = Jvm.exec) (hb : c.code = cc) (hE : ah_E G s) (hR : ah_R G h H) (hS : va_S (ah_A G) s.heap H locs) {n i : Nat} {f : Nat → Int32} {x : Int32} (ha : h a = some (t, .inl (G.2.2.1 0, n, .inl f))) (hi : i < n) (hn : n < 2 ^ 31) (hdg : decode cc pc = .ok (.iastore, 1))
    (kk : ∀ (H1 : Heap) (locs1 : List Loc), ah_R G (ah_up h a (t, .inl (G.2.2.1 0, n, .inl (upd f i x)))) H1 → va_S (ah_A G) s.heap H1 locs1 → W p l e R s m args below meth c H1 locs1 cells slots Q (F0 m (pc + 1) ls rest)) : W p l e R s m args below meth c H locs cells slots Q (F0 m pc ls (.int x :: .int (nI i) :: .ref a :: rest)) := by
  obtain ⟨ws, hP, hD, hcv⟩ := hR
  obtain ⟨q0, he⟩ := hcv a t _ ha
  refine va_iast hx hb hE.2.1 hP hD hS q0 0 he rfl (vp_in_nI hi hn) hdg (fun H1 locs1 hP1 hD1 hS1 => ?_)
  rw [nI_clamp (Nat.lt_trans hi hn)] at hP1 hD1
  exact kk H1 locs1 ⟨_, hP1, hD1, ah_cset hcv he⟩ hS1
theorem ah_alen (hx : p.tables.exec = Jvm.exec) (hb : c.code = cc) (hE : ah_E G s) (hR : ah_R G h H) {n k : Nat} {x : Sum (Nat → Int32) (Sum (Nat → Int64) (Sum (Nat → UInt32) (Sum (Nat → UInt64) (Nat → Option Nat))))} {cA : ClassId} {ty : FieldType} (ha : h a = some (t, .inl (cA, n, x))) (hk : (ah_tys G)[k]? = some (cA, ty)) (hdg : decode cc pc = .ok (.arraylength, 1))
    (kk : W p l e R s m args below meth c H locs cells slots Q (F0 m (pc + 1) ls (.int (nI n) :: rest))) : W p l e R s m args below meth c H locs cells slots Q (F0 m pc ls (.ref a :: rest)) := by
  obtain ⟨ws, hP, hD, hcv⟩ := hR
  obtain ⟨q0, he⟩ := hcv a t _ ha
  exact va_alen hx hb hE.2.1 hP q0 k he hk rfl hdg kk
theorem ah_newi (hx : p.tables.exec = Jvm.exec) (hb : c.code = cc) (hE : ah_E G s) (hR : ah_R G h H) (hS : va_S (ah_A G) s.heap H locs) (harr : (Cond.arrayClass .int).before args s = true) (t : Nat) {n : Nat} (hn : n * 4 ≤ 536870912) (hcells : cells + 1 ≤ R.cells) (hslots : slots + n ≤ R.slots) (hdg : decode cc pc = .ok (.newarray .int, 2))
    (kk : ∀ (q : Nat) (H1 : Heap), h q = none → ah_R G (ah_up h q (t, .inl (G.2.2.1 0, n, .inl (fun _ => 0)))) H1 → va_S (ah_A G) s.heap H1 locs → W p l e R s m args below meth c H1 locs (cells + 1) (slots + n) Q (F0 m (pc + 2) ls (.ref q :: rest))) : W p l e R s m args below meth c H locs cells slots Q (F0 m pc ls (.int (nI n) :: rest)) := by
  obtain ⟨ws, hP, hD, hcv⟩ := hR
  have h31 : n < 2 ^ 31 := by omega
  have hn4 : n * componentBytes .int ≤ 536870912 := hn
  have ha0 : ∀ cA : ClassId, vp_cell cA (n, .inl (fun _ => 0)) = arrV cA n (fun _ => defaultValue .int) := fun cA => vp_cell_i cA n _
  refine va_newa (atype := .int) (ty := .int) (a0 := (n, .inl (fun _ => 0))) (N' := n) hx hb harr rfl hE.2.1 hP hD hS hE.A ha0 (nI_pos h31) (nI_clamp h31) hn4 hcells hslots hdg ?_
  intro q cA H1 hK1 hP1 hD1 hS1
  have k1 : s.vm.findClass ("[" ++ FieldType.int.toString) = some cA := (hK1.2 5 (cA, .int) rfl).2
  have k0 : s.vm.findClass ("[" ++ FieldType.int.toString) = some (G.2.2.1 0) := (hE.2.1.2 0 (G.2.2.1 0, .int) rfl).2
  have e1 : cA = G.2.2.1 0 := Option.some.inj (k1.symm.trans k0)
  subst e1
  exact kk q H1 (ah_fresh hcv hD1) ⟨_, hP1, hD1, ah_cpush hcv⟩ hS1
theorem ah_newo {c : Code} (hx : p.tables.exec = Jvm.exec) (hb : c.code = cc) (hE : ah_E G s) (hR : ah_R G h H) (hS : va_S (ah_A G) s.heap H locs) (t : Nat) {own C : String} {T : u_T} {N ci index : Nat} {Ts : List Cond} (hts : ∀ w ∈ Ts, w.before args s = true) (hin : ∀ w ∈ u_ws C T N, w ∈ Ts) (ty : Nat → FieldType) (hty : ∀ k, k < N → parseFieldDescriptor (T k).2.2.1 = some (ty k)) (hown : s.vm.findClass own = some m.cls) (hcl : (Cond.classLink own index C).before args s = true) (hinst : (Cond.instantiable C N).before args s = true) (hini : (Cond.initialized C).before args s = true)
    (hc : vwCl[ci]? = some (C, T, N)) {fs : List Value} (hfs : ∀ j, j < N → defaultValue (ty j) = vp_V fs j) (hcells : cells + 1 ≤ R.cells) (hslots : slots + N ≤ R.slots) (hdg : decode cc pc = .ok (.new index, 3))
    (kk : ∀ (q : Nat) (H1 : Heap), h q = none → ah_R G (ah_up h q (t, .inr (ci, fs))) H1 → va_S (ah_A G) s.heap H1 locs → W p l e R s m args below meth c H1 locs (cells + 1) (slots + N) Q (F0 m (pc + 3) ls (.ref q :: rest))) : W p l e R s m args below meth c H locs cells slots Q (F0 m pc ls rest) := by
  obtain ⟨ws, hP, hD, hcv⟩ := hR
  exact va_new hx hb hts hin ty hty hown hcl hinst hini hE.2.1 hP hD hS hE.A hc hfs hcells hslots hdg (fun q H1 hP1 hD1 hS1 => kk q H1 (ah_fresh hcv hD1) ⟨_, hP1, hD1, ah_cpush hcv⟩ hS1)
/-- arrays of references; k: which of the array types -/
theorem ah_newq (hx : p.tables.exec = Jvm.exec) (hb : c.code = cc) (hE : ah_E G s) (hR : ah_R G h H) (hS : va_S (ah_A G) s.heap H locs) (t k : Nat) {own C : String} {index : Nat} (hown : s.vm.findClass own = some m.cls) (hcl : (Cond.classLink own index C).before args s = true) (hover : va_AO C s) (hk : (ah_tys G)[k]? = some (G.2.2.1 k, .object C)) {n : Nat} (hn : n * 4 ≤ 536870912) (hcells : cells + 1 ≤ R.cells) (hslots : slots + n ≤ R.slots) (hdg : decode cc pc = .ok (.anewarray index, 3))
    (kk : ∀ (q : Nat) (H1 : Heap), h q = none → ah_R G (ah_up h q (t, .inl (G.2.2.1 k, n, .inr (.inr (.inr (.inr (fun _ => none))))))) H1 → va_S (ah_A G) s.heap H1 locs → W p l e R s m args below meth c H1 locs (cells + 1) (slots + n) Q (F0 m (pc + 3) ls (.ref q :: rest))) : W p l e R s m args below meth c H locs cells slots Q (F0 m pc ls (.int (nI n) :: rest)) := by
  obtain ⟨ws, hP, hD, hcv⟩ := hR
  have h31 : n < 2 ^ 31 := by omega
  refine va_newq (N' := n) hx hb hown hcl hover hE.2.1 hP hD hS hE.A (nI_pos h31) (nI_clamp h31) hn hcells hslots hdg (fun q cA H1 hK1 hP1 hD1 hS1 => ?_)
  have e1 : cA = G.2.2.1 k := by
    obtain ⟨k1, c1, a1, b1, d1, f1⟩ := (hK1.2 5 (cA, .object C) rfl).2
    obtain ⟨k2, c2, a2, b2, d2, f2⟩ := (hE.2.1.2 k (G.2.2.1 k, .object C) hk).2
    exact Option.some.inj (f1.symm.trans f2)
  subst e1
  exact kk q H1 (ah_fresh hcv hD1) ⟨_, hP1, hD1, ah_cpush hcv⟩ hS1
theorem ah_aald (hx : p.tables.exec = Jvm.exec) (hb : c.code = cc) (hE : ah_E G s) (hR : ah_R G h H) {n i k : Nat} {C : String} {f : Nat → Option Nat} (ha : h a = some (t, .inl (G.2.2.1 k, n, .inr (.inr (.inr (.inr f)))))) (hk : (ah_tys G)[k]? = some (G.2.2.1 k, .object C)) (hi : i < n) (hn : n < 2 ^ 31) (hdg : decode cc pc = .ok (.aaload, 1))
    (kk : W p l e R s m args below meth c H locs cells slots Q (F0 m (pc + 1) ls (va_rf (f i) :: rest))) : W p l e R s m args below meth c H locs cells slots Q (F0 m pc ls (.int (nI i) :: .ref a :: rest)) := by
  obtain ⟨ws, hP, hD, hcv⟩ := hR
  obtain ⟨q0, he⟩ := hcv a t _ ha
  exact va_aldq hx hb hE.2.1 hP q0 k he hk (vp_in_nI hi hn) hdg (by rw [nI_clamp (Nat.lt_trans hi hn)]; exact kk)
theorem ah_aast (hx : p.tables.exec = Jvm.exec) (hb : c.code = cc) (hE : ah_E G s) (hR : ah_R G h H) (hS : va_S (ah_A G) s.heap H locs) {n i k v tv ci : Nat} {r : vw_C} {vs : List Value} {f : Nat → Option Nat} (ha : h a = some (t, .inl (G.2.2.1 k, n, .inr (.inr (.inr (.inr f)))))) (hk : (ah_tys G)[k]? = some (G.2.2.1 k, .object r.1)) (hv : h v = some (tv, .inr (ci, vs))) (hc : vwCl[ci]? = some r) (hi : i < n) (hn : n < 2 ^ 31) (hdg : decode cc pc = .ok (.aastore, 1))
    (kk : ∀ (H1 : Heap) (locs1 : List Loc), ah_R G (ah_up h a (t, .inl (G.2.2.1 k, n, .inr (.inr (.inr (.inr (va_up f i (some v)))))))) H1 → va_S (ah_A G) s.heap H1 locs1 → W p l e R s m args below meth c H1 locs1 cells slots Q (F0 m (pc + 1) ls rest)) : W p l e R s m args below meth c H locs cells slots Q (F0 m pc ls (.ref v :: .int (nI i) :: .ref a :: rest)) := by
  obtain ⟨ws, hP, hD, hcv⟩ := hR
  obtain ⟨q0, he⟩ := hcv a t _ ha
  obtain ⟨q1, he1⟩ := hcv v tv _ hv
  refine va_astq hx hb hE.2.1 hP hD hS q0 k q1 ci he hk he1 hc (vp_in_nI hi hn) hdg (fun H1 locs1 hP1 hD1 hS1 => ?_)
  rw [nI_clamp (Nat.lt_trans hi hn)] at hP1 hD1
  exact kk H1 locs1 ⟨_, hP1, hD1, ah_cset hcv he⟩ hS1
theorem ah_aastN (hx : p.tables.exec = Jvm.exec) (hb : c.code = cc) (hE : ah_E G s) (hR : ah_R G h H) (hS : va_S (ah_A G) s.heap H locs) {n i k : Nat} {C : String} {f : Nat → Option Nat} (ha : h a = some (t, .inl (G.2.2.1 k, n, .inr (.inr (.inr (.inr f)))))) (hk : (ah_tys G)[k]? = some (G.2.2.1 k, .object C)) (hi : i < n) (hn : n < 2 ^ 31) (hdg : decode cc pc = .ok (.aastore, 1))
    (kk : ∀ (H1 : Heap) (locs1 : List Loc), ah_R G (ah_up h a (t, .inl (G.2.2.1 k, n, .inr (.inr (.inr (.inr (va_up f i none))))))) H1 → va_S (ah_A G) s.heap H1 locs1 → W p l e R s m args below meth c H1 locs1 cells slots Q (F0 m (pc + 1) ls rest)) : W p l e R s m args below meth c H locs cells slots Q (F0 m pc ls (.null :: .int (nI i) :: .ref a :: rest)) := by
  obtain ⟨ws, hP, hD, hcv⟩ := hR
  obtain ⟨q0, he⟩ := hcv a t _ ha
  refine va_astqN hx hb hE.2.1 hP hD hS q0 k he hk (vp_in_nI hi hn) hdg (fun H1 locs1 hP1 hD1 hS1 => ?_)
  rw [nI_clamp (Nat.lt_trans hi hn)] at hP1 hD1
  exact kk H1 locs1 ⟨_, hP1, hD1, ah_cset hcv he⟩ hS1
/-- the ends -/
theorem ah_iret {post : Int32 → ah_H → Prop} {v : Int32} (hx : p.tables.exec = Jvm.exec) (hb : c.code = cc) (hr : meth.sig.returnType = some .int) (hlocks : meth.locks = false) (hR : ah_R G h H) (hS : va_S (ah_A G) s.heap H locs) (hdg : decode cc pc = .ok (.ireturn, 1)) (hp : post v h) : W p l e R s m args below meth c H locs cells slots (MQ below (ah_Qi G post) args s cells slots (ah_A G)) (F0 m pc ls [.int v]) :=
  W.iret hx hb hr (fun t ht hW => ⟨⟨v, h, rfl, hp, by show ah_R G h t.heap; rw [ht]; exact hR⟩, hS.F ht⟩) hS.2.2 hdg hlocks
theorem ah_zret {post : Int32 → ah_H → Prop} {v : Int32} (hx : p.tables.exec = Jvm.exec) (hb : c.code = cc) (hr : meth.sig.returnType = some .boolean) (hlocks : meth.locks = false) (hR : ah_R G h H) (hS : va_S (ah_A G) s.heap H locs) (hdg : decode cc pc = .ok (.ireturn, 1)) (hv : narrow .boolean (.int v) = .int v) (hp : post v h) : W p l e R s m args below meth c H locs cells slots (MQ below (ah_Qi G post) args s cells slots (ah_A G)) (F0 m pc ls [.int v]) :=
  W.zret hx hb hr hv (fun t ht hW => ⟨⟨v, h, rfl, hp, by show ah_R G h t.heap; rw [ht]; exact hR⟩, hS.F ht⟩) hS.2.2 hdg hlocks
theorem ah_vret {post : ah_H → Prop} (hx : p.tables.exec = Jvm.exec) (hb : c.code = cc) (hr : meth.sig.returnType = none) (hlocks : meth.locks = false) (hR : ah_R G h H) (hS : va_S (ah_A G) s.heap H locs) (hdg : decode cc pc = .ok (.return_, 1)) (hp : post h) : W p l e R s m args below meth c H locs cells slots (MQ below (ah_Qv G post) args s cells slots (ah_A G)) (F0 m pc ls []) :=
  W.vret hx hb hr (fun t ht hW => ⟨⟨h, rfl, hp, by show ah_R G h t.heap; rw [ht]; exact hR⟩, hS.F ht⟩) hS.2.2 hdg hlocks
theorem ah_aret {post : Option Nat → ah_H → Prop} {r : Option Nat} {v : Value} {rt : FieldType} (hx : p.tables.exec = Jvm.exec) (hb : c.code = cc) (hr : meth.sig.returnType = some rt) (hrt : (∃ n, rt = .object n) ∨ ∃ t, rt = .array t) (hlocks : meth.locks = false) (hR : ah_R G h H) (hS : va_S (ah_A G) s.heap H locs) (hdg : decode cc pc = .ok (.areturn, 1)) (hv : v = va_rf r) (hp : post r h) : W p l e R s m args below meth c H locs cells slots (MQ below (ah_Qq G post) args s cells slots (ah_A G)) (F0 m pc ls [v]) := by
  subst hv
  exact W.aret hx hb hr hrt (va_rf_or r) (fun t ht hW => ⟨⟨r, h, rfl, hp, by show ah_R G h t.heap; rw [ht]; exact hR⟩, hS.F ht⟩) hS.2.2 hdg hlocks
end AHR
/-- the head of any method that throws nothing -/
theorem ah_ofW {l : Launch} {G : ah_G} {h : ah_H} {av : List Value} {y : MethodName} {ws ws' : List Cond} {rm : Room} {Qc : Array Value → State → Outcome → State → Prop} {mc ms : Nat} {cc : ByteArray} {maxL : Nat} {ret : Option FieldType}
    (hy : plainName y.cls = true) (hw : ws = Cond.code y cc maxL ret :: ws') (hlen : (lg_sl av).length ≤ maxL)
    (body : ∀ (p : Program) (e : Env) (s : State) (m : MethodId) (below : List Frame) (meth : Method) (c : Code) (ls : Array Slot), p.tables.exec = Jvm.exec → c.code = cc → meth.sig.returnType = ret → c.maxLocals = maxL → s.vm.findClass y.cls = some m.cls → meth.locks = false → meth.name = y.name → (∀ w ∈ ws, w.before av.toArray s = true) → ah_E G s → ah_R G h s.heap → va_S (ah_A G) s.heap s.heap [] → lv_has ls maxL (lv_args 0 av) →
      W p l e rm s m av.toArray below meth c s.heap [] 0 0 (MQ below Qc av.toArray s mc ms (ah_A G)) (F0 m 0 ls [])) : Met l y ws rm (ah_Pc G av h) Qc mc ms (ah_A G) := by
  refine Met.ofW (cc := cc) (maxL := maxL) (ret := ret) hy hw ?_
  intro p e s m args below meth c s₁ B hml hv
  obtain ⟨rfl, hE, hR⟩ := hv
  have hl := lv_entry av (n := maxL) hlen
  rw [lg_entry_eq]
  generalize (lg_sl av ++ List.replicate (maxL - (lg_sl av).length) Slot.unset).toArray = ls at hl ⊢
  exact body p e s m below meth c ls B.exec B.bytes B.returns hml (findClass_of_methodNamed B.named) B.notSynchronized (name_of_methodNamed B.named B.method).1 (atoms_spec (ws := ws) B.pre) hE hR va_S.rf hl
