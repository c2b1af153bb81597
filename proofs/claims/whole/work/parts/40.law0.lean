/-! ===== the law's helpers: catching; long arrays ===== -/
theorem vx_catch {p : Program} {l : Launch} {e : Env} {R : Room} {s : State} {m : MethodId} {args : Array Value} {below : List Frame} {meth : Method} {c : Code} {H : Heap} {locs : List Loc} {cells slots : Nat} {Q : State → Prop} {pc : Nat} {ls : Array Slot} {rest : List Value} {own name : String} {E : String} {ce : Cell} {q : Addr} (hown : s.vm.findClass own = some m.cls) (pre : List ExceptionTableEntry) (x : ExceptionTableEntry) (suf : List ExceptionTableEntry) (hsplit : c.exceptionTable.toList = pre ++ x :: suf)
    (hpass : ∀ z ∈ pre, covers z pc = false ∨ (z.catchType ≠ 0 ∧ ∃ nm : String, (Cond.classLink own z.catchType nm).before args s = true ∧ va_Nc E nm s)) (hx : covers x pc = true) (h0 : x.catchType ≠ 0)
    (hlink : (Cond.classLink own x.catchType name).before args s = true) (hcast : (Cond.castable E name).before args s = true) (hcell : H[q]? = some ce) (hv : ce.vm = .none) (hcl : s.vm.findClass E = some ce.cls)
    (kk : W p l e R s m args below meth c H locs cells slots Q (F0 m x.handlerPc ls [.ref q])) : vx_W p l e R s m args below meth c H locs cells slots Q (F0 m pc ls rest) q := by
  sorry
theorem Met.ofWH {l : Launch} {y : MethodName} {ws ws' : List Cond} {rm : Room} {Pc : Array Value → State → Prop} {Qc : Array Value → State → Outcome → State → Prop} {mc ms : Nat} {free : Addr → Prop} {cc : ByteArray} {maxL : Nat} {ret : Option FieldType} {hh : List (Nat × Nat × Nat × Nat)}
    (hy : plainName y.cls = true) (hw : ws = Cond.codeWith y cc maxL ret hh :: ws')
    (body : ∀ p e s m args below meth c s₁, BodyLoose p l y (headSpec ws rm) cc maxL ret e s m args below meth c s₁ → c.maxLocals = maxL → Pc args s →
      W p l e (headSpec ws rm).room s m args below meth c s.heap [] 0 0 (MQ below Qc args s mc ms free) (entryFrame m args maxL)) : Met l y ws rm Pc Qc mc ms free := by
  refine MetFree.of_bodyS (code := cc) (maxLocals := maxL) (ret := ret) hy ?_ ?_
  · intro args s m h hn
    obtain ⟨m9, meth, c, hn9, h1, h2, h3, h4, -, h5, h6, -⟩ := Cond.codeWith_spec (atoms_spec (ws := ws) h _ (by rw [hw]; exact List.mem_cons_self))
    cases hn.symm.trans hn9
    exact ⟨meth, c, h1, h2, h3, h4, h5, h6⟩
  · intro p e s m args below meth c s₁ B hml hP _
    have hh0 : s₁.heap = s.heap := by rw [B.state]; rfl
    obtain ⟨t, a1, o, b1, b2, b3⟩ := body p e s m args below meth c s₁ B hml hP s₁ hh0 (Stand.of_body B)
    exact ⟨t, o, a1, b1, b2, b3⟩
/-- what the law's helpers need beside: a state's exception is not an argument's -/
def ah_PH (G : ah_G) (av : List Value) (h : ah_H) : Array Value → State → Prop := va_Pc av (fun U => (ah_P G h U ∧ ah_X G U) ∧ va_Nc eIS eIA U)
theorem ah_blindH {G : ah_G} {av : List Value} {h : ah_H} : FrameBlind (ah_PH G av h) := fun a U g mk q => ⟨q.1, ⟨⟨ah_E.calling g mk a q.2.1.1.1, q.2.1.1.2⟩, ah_X.calling g mk a q.2.1.2⟩, va_Nc.moved (Vm.Alike.refl U.vm) q.2.2⟩
theorem ah_preH {G : ah_G} {av : List Value} {h : ah_H} {s : State} {H : Heap} {locs : List Loc} (hE : ah_E G s) (hX : ah_X G s) (hN : va_Nc eIS eIA s) (hR : ah_R G h H) (hS : va_S (ah_A G) s.heap H locs) : PreS s H (ah_PH G av h) av :=
  ⟨ah_blindH, fun U hU hW => ⟨rfl, ⟨⟨hE.at hS hU hW, by rw [hU]; exact hR⟩, hX.at hS hU hW⟩, va_Nc.moved hW.alike hN⟩⟩
theorem ah_ofH {l : Launch} {G : ah_G} {h : ah_H} {av : List Value} {y : MethodName} {ws ws' : List Cond} {rm : Room} {Qc : Array Value → State → Outcome → State → Prop} {mc ms : Nat} {cc : ByteArray} {maxL : Nat} {ret : Option FieldType} {hh : List (Nat × Nat × Nat × Nat)}
    (hy : plainName y.cls = true) (hw : ws = Cond.codeWith y cc maxL ret hh :: ws') (hlen : (lg_sl av).length ≤ maxL)
    (body : ∀ (p : Program) (e : Env) (s : State) (m : MethodId) (below : List Frame) (meth : Method) (c : Code) (ls : Array Slot), p.tables.exec = Jvm.exec → c.code = cc → meth.sig.returnType = ret → c.maxLocals = maxL → s.vm.findClass y.cls = some m.cls → meth.locks = false → meth.name = y.name → (∀ w ∈ ws, w.before av.toArray s = true) → c.exceptionTable.toList = tableOf hh → va_Nc eIS eIA s → ah_X G s → ah_E G s → ah_R G h s.heap → va_S (ah_A G) s.heap s.heap [] → lv_has ls maxL (lv_args 0 av) →
      W p l e rm s m av.toArray below meth c s.heap [] 0 0 (MQ below Qc av.toArray s mc ms (ah_A G)) (F0 m 0 ls [])) : Met l y ws rm (ah_PH G av h) Qc mc ms (ah_A G) := by
  refine Met.ofWH (cc := cc) (maxL := maxL) (ret := ret) (hh := hh) hy hw ?_
  intro p e s m args below meth c s₁ B hml hv
  obtain ⟨rfl, ⟨⟨hE, hR⟩, hX⟩, hN⟩ := hv
  have hl := lv_entry av (n := maxL) hlen
  have hts := atoms_spec (ws := ws) B.pre
  have htab := vx_table B (hts _ (by rw [hw]; exact List.mem_cons_self))
  rw [lg_entry_eq]
  generalize (lg_sl av ++ List.replicate (maxL - (lg_sl av).length) Slot.unset).toArray = ls at hl ⊢
  exact body p e s m below meth c ls B.exec B.bytes B.returns hml (findClass_of_methodNamed B.named) B.notSynchronized (name_of_methodNamed B.named B.method).1 hts htab hN hX hE hR va_S.rf hl
section AHL
variable {p : Program} {l : Launch} {e : Env} {R : Room} {s : State} {m : MethodId} {args : Array Value} {below : List Frame} {meth : Method} {c : Code} {H : Heap} {locs : List Loc} {cells slots : Nat} {Q : State → Prop}
variable {cc : ByteArray} {pc : Nat} {ls : Array Slot} {rest st0 : List Value} {G : ah_G} {h : ah_H} {a t : Nat} {mc ms : Nat} {av : Array Value}
theorem ah_callX {post : Int32 → ah_H → Prop} {px : String → ah_H → Prop} (hr : vx_Run p l e R s m args below meth c H locs cells slots mc ms (F0 m pc ls st0) rest (ah_Qi G post av) (ah_QX G px) (ah_A G)) (hS : va_S (ah_A G) s.heap H locs)
    (kx : ∀ (E : String) (ce : Cell) (q9 : Addr) (h1 : ah_H) (H1 : Heap) (locs1 : List Loc), px E h1 → ah_R G h1 H1 → va_S (ah_A G) s.heap H1 locs1 → H1[q9]? = some ce → ce.vm = .none → s.vm.findClass E = some ce.cls → vx_W p l e R s m args below meth c H1 locs1 (cells + mc) (slots + ms) Q (F0 m pc ls rest) q9)
    (kk : ∀ (r : Int32) (h1 : ah_H) (H1 : Heap) (locs1 : List Loc), post r h1 → ah_R G h1 H1 → va_S (ah_A G) s.heap H1 locs1 → W p l e R s m args below meth c H1 locs1 (cells + mc) (slots + ms) Q (F0 m (pc + 3) ls (.int r :: rest))) : W p l e R s m args below meth c H locs cells slots Q (F0 m pc ls st0) :=
  vx_calli hr hS (fun _ _ z => z) (fun _ z => z) (fun _ _ z => z) (fun E ce q9 u t H1 locs1 ht _ hp hB _ _ hS1 hc hv hcl => by
    obtain ⟨hE, hB⟩ := hB
    subst hE
    exact kx u.1 ce q9 u.2 H1 locs1 hp (by subst ht; exact hB) hS1 hc hv hcl) (fun r u t H1 locs1 ht _ hp hB _ _ hS1 => kk r u H1 locs1 hp (by subst ht; exact hB) hS1)
theorem ah_lald (hx : p.tables.exec = Jvm.exec) (hb : c.code = cc) (hE : ah_E G s) (hR : ah_R G h H) {n i : Nat} {f : Nat → Int64} (ha : h a = some (t, .inl (G.2.2.1 4, n, .inr (.inl f)))) (hi : i < n) (hn : n < 2 ^ 31) (hdg : decode cc pc = .ok (.laload, 1))
    (kk : W p l e R s m args below meth c H locs cells slots Q (F0 m (pc + 1) ls (.long (f i) :: rest))) : W p l e R s m args below meth c H locs cells slots Q (F0 m pc ls (.int (nI i) :: .ref a :: rest)) := by
  obtain ⟨ws, hP, hD, hcv⟩ := hR
  obtain ⟨q0, he⟩ := hcv a t _ ha
  exact va_lald hx hb hE.2.1 hP q0 4 he rfl (vp_in_nI hi hn) hdg (by rw [nI_clamp (Nat.lt_trans hi hn)]; exact kk)
theorem ah_last (hx : p.tables.exec = Jvm.exec) (hb : c.code = cc) (hE : ah_E G s) (hR : ah_R G h H) (hS : va_S (ah_A G) s.heap H locs) {n i : Nat} {f : Nat → Int64} {x : Int64} (ha : h a = some (t, .inl (G.2.2.1 4, n, .inr (.inl f)))) (hi : i < n) (hn : n < 2 ^ 31) (hdg : decode cc pc = .ok (.lastore, 1))
    (kk : ∀ (H1 : Heap) (locs1 : List Loc), ah_R G (ah_up h a (t, .inl (G.2.2.1 4, n, .inr (.inl (vp_updL f i x))))) H1 → va_S (ah_A G) s.heap H1 locs1 → W p l e R s m args below meth c H1 locs1 cells slots Q (F0 m (pc + 1) ls rest)) : W p l e R s m args below meth c H locs cells slots Q (F0 m pc ls (.long x :: .int (nI i) :: .ref a :: rest)) := by
  obtain ⟨ws, hP, hD, hcv⟩ := hR
  obtain ⟨q0, he⟩ := hcv a t _ ha
  refine va_last hx hb hE.2.1 hP hD hS q0 4 he rfl (vp_in_nI hi hn) hdg (fun H1 locs1 hP1 hD1 hS1 => ?_)
  rw [nI_clamp (Nat.lt_trans hi hn)] at hP1 hD1
  exact kk H1 locs1 ⟨_, hP1, hD1, ah_cset hcv he⟩ hS1
theorem ah_newl (hx : p.tables.exec = Jvm.exec) (hb : c.code = cc) (hE : ah_E G s) (hR : ah_R G h H) (hS : va_S (ah_A G) s.heap H locs) (harr : (Cond.arrayClass .long).before args s = true) (t : Nat) {n : Nat} (hn : n * 8 ≤ 536870912) (hcells : cells + 1 ≤ R.cells) (hslots : slots + n ≤ R.slots) (hdg : decode cc pc = .ok (.newarray .long, 2))
    (kk : ∀ (q : Nat) (H1 : Heap), h q = none → ah_R G (ah_up h q (t, .inl (G.2.2.1 4, n, .inr (.inl (fun _ => 0))))) H1 → va_S (ah_A G) s.heap H1 locs → W p l e R s m args below meth c H1 locs (cells + 1) (slots + n) Q (F0 m (pc + 2) ls (.ref q :: rest))) : W p l e R s m args below meth c H locs cells slots Q (F0 m pc ls (.int (nI n) :: rest)) := by
  obtain ⟨ws, hP, hD, hcv⟩ := hR
  have h31 : n < 2 ^ 31 := by omega
  have hn4 : n * componentBytes .long ≤ 536870912 := hn
  have ha0 : ∀ cA : ClassId, vp_cell cA (n, .inr (.inl (fun _ => 0))) = arrV cA n (fun _ => defaultValue .long) := fun cA => vp_cell_l cA n _
  refine va_newa (atype := .long) (ty := .long) (a0 := (n, .inr (.inl (fun _ => 0)))) (N' := n) hx hb harr rfl hE.2.1 hP hD hS hE.A ha0 (nI_pos h31) (nI_clamp h31) hn4 hcells hslots hdg ?_
  intro q cA H1 hK1 hP1 hD1 hS1
  have k1 : s.vm.findClass ("[" ++ FieldType.long.toString) = some cA := (hK1.2 5 (cA, .long) rfl).2
  have k0 : s.vm.findClass ("[" ++ FieldType.long.toString) = some (G.2.2.1 4) := (hE.2.1.2 4 (G.2.2.1 4, .long) rfl).2
  have e1 : cA = G.2.2.1 4 := Option.some.inj (k1.symm.trans k0)
  subst e1
  exact kk q H1 (ah_fresh hcv hD1) ⟨_, hP1, hD1, ah_cpush hcv⟩ hS1
end AHL
