/-! ===== the law's helpers: catching; long arrays ===== -/
/-- one row of a table that covers the place: its class is linked (that is noted), and then it takes the thing or not -/
theorem vy_row {Q : Handler → Pre} {E : CtlPost} {e : Env} {d : Bool} {acts : List Action} {s : State} {f : JFrame} {a : Addr} {x : ExceptionTableEntry} {t : List ExceptionTableEntry} {c : ClassId} {ce : Cell} (hx : covers x f.pc = true) (h0 : x.catchType ≠ 0) (hl : s.vm.ClassLinks e.platform f.method.cls x.catchType c) (hcell : s.heap[a]? = some ce) (hv : ce.vm = .none) (hk : ∃ k, s.vm.classes[ce.cls]? = some k) (hc : ∃ k, s.vm.classes[c]? = some k) :
    wp (findHandler.go f a (x :: t)) Q E e d acts s ↔ if s.vm.assignable ce.cls c = true then Q (.found x.handlerPc) d acts (s.setVm (s.vm.noted f.method.cls x.catchType (.cls c))) else wp (findHandler.go f a t) Q E e d acts (s.setVm (s.vm.noted f.method.cls x.catchType (.cls c))) := by
  have hal : s.vm.Alike (s.vm.noted f.method.cls x.catchType (.cls c)) := (Vm.Alike.refl s.vm).noted _ _ _
  have hobj : ∀ k, ce.vm ≠ .statics k := fun k z => by rw [hv] at z; cases z
  obtain ⟨q1, q2⟩ := (resolveClass_links e.toSetting hl).op (op := VmOp.resolveClass f.method.cls x.catchType) rfl
  obtain ⟨k1, z1⟩ := hk
  obtain ⟨k2, z2⟩ := hc
  obtain ⟨k3, z3, -⟩ := hal.2.2 _ _ z1
  obtain ⟨k4, z4, -⟩ := hal.2.2 _ _ z2
  have has : (s.vm.noted f.method.cls x.catchType (.cls c)).assignable ce.cls c = s.vm.assignable ce.cls c := hal.assignable ..
  simp only [covers] at hx
  cases hq : s.vm.assignable ce.cls c <;> rw [hq] at has <;> simp [findHandler.go, hx, h0, q1, q2, hcell, hobj, z3, z4, has, VmOp.dirties, VmOp.acts]
/-- what the search over the rows gives, and the tables it leaves: the rows ahead don't cover the place, or their class doesn't take the thing -/
theorem vy_go {e : Env} {s : State} {f : JFrame} {a : Addr} {ce : Cell} (hv : ce.vm = .none) (hk : ∃ k, s.vm.classes[ce.cls]? = some k) {x : ExceptionTableEntry} {suf : List ExceptionTableEntry} {c4 : ClassId} (hx : covers x f.pc = true) (h0 : x.catchType ≠ 0) (hl : s.vm.ClassLinks e.platform f.method.cls x.catchType c4) (hy : s.vm.assignable ce.cls c4 = true) :
    ∀ (pre : List ExceptionTableEntry) (S : State), s.WarmedH S.vm → S.heap[a]? = some ce → (∀ z ∈ pre, covers z f.pc = false ∨ (z.catchType ≠ 0 ∧ ∃ c6, s.vm.ClassLinks e.platform f.method.cls z.catchType c6 ∧ s.vm.assignable ce.cls c6 = false)) →
      ∃ vm', s.WarmedH vm' ∧ ∀ (Q : Handler → Pre) (E : CtlPost) (d : Bool) (acts : List Action), wp (findHandler.go f a (pre ++ x :: suf)) Q E e d acts S ↔ Q (.found x.handlerPc) d acts (S.setVm vm')
  | [], S, hW, hcell, _ => by
    obtain ⟨k0, z0⟩ := hk
    obtain ⟨k1, z1, -⟩ := hW.alike.2.2 _ _ z0
    obtain ⟨_, _, _, kt, q1, _, _, _, _, q2, _, q3⟩ := hl.here
    obtain ⟨k2, z2, -⟩ := hW.alike.2.2 _ _ q2
    refine ⟨_, hW.noted q1 q3 (State.rightAt_cls hl), fun Q E d acts => ?_⟩
    show wp (findHandler.go f a (x :: suf)) Q E e d acts S ↔ _
    rw [vy_row hx h0 (hW.classLinks hl) hcell hv ⟨k1, z1⟩ ⟨k2, z2⟩, if_pos ((hW.alike.assignable _ _).trans hy)]
  | z :: pre, S, hW, hcell, hp => by
    have hp' := fun y (m : y ∈ pre) => hp y (List.mem_cons_of_mem _ m)
    cases hz : covers z f.pc with
    | false =>
      obtain ⟨vm', w1, w2⟩ := vy_go hv hk hx h0 hl hy pre S hW hcell hp'
      refine ⟨vm', w1, fun Q E d acts => ?_⟩
      show wp (findHandler.go f a (z :: (pre ++ x :: suf))) Q E e d acts S ↔ _
      rw [W.findHandler_go_skip hz]
      exact w2 Q E d acts
    | true =>
      rcases hp z List.mem_cons_self with h | ⟨h9, c6, l6, n6⟩
      · rw [hz] at h; cases h
      have hk9 := hk
      obtain ⟨k0, z0⟩ := hk9
      obtain ⟨k1, z1, -⟩ := hW.alike.2.2 _ _ z0
      obtain ⟨_, _, _, kt, q1, _, _, _, _, q2, _, q3⟩ := l6.here
      obtain ⟨k2, z2, -⟩ := hW.alike.2.2 _ _ q2
      obtain ⟨vm', w1, w2⟩ := vy_go hv hk hx h0 hl hy pre (S.setVm (S.vm.noted f.method.cls z.catchType (.cls c6))) (hW.noted q1 q3 (State.rightAt_cls l6)) hcell hp'
      refine ⟨vm', w1, fun Q E d acts => ?_⟩
      show wp (findHandler.go f a (z :: (pre ++ x :: suf))) Q E e d acts S ↔ _
      rw [vy_row hz h9 (hW.classLinks l6) hcell hv ⟨k1, z1⟩ ⟨k2, z2⟩, if_neg (by rw [hW.alike.assignable, n6]; decide)]
      exact w2 Q E d acts
theorem vx_catch {p : Program} {l : Launch} {e : Env} {R : Room} {s : State} {m : MethodId} {args : Array Value} {below : List Frame} {meth : Method} {c : Code} {H : Heap} {locs : List Loc} {cells slots : Nat} {Q : State → Prop} {pc : Nat} {ls : Array Slot} {rest : List Value} {own name : String} {E : String} {ce : Cell} {q : Addr} (hown : s.vm.findClass own = some m.cls) (pre : List ExceptionTableEntry) (x : ExceptionTableEntry) (suf : List ExceptionTableEntry) (hsplit : c.exceptionTable.toList = pre ++ x :: suf)
    (hpass : ∀ z ∈ pre, covers z pc = false ∨ (z.catchType ≠ 0 ∧ ∃ nm : String, (Cond.classLink own z.catchType nm).before args s = true ∧ va_Nc E nm s)) (hx : covers x pc = true) (h0 : x.catchType ≠ 0)
    (hlink : (Cond.classLink own x.catchType name).before args s = true) (hcast : (Cond.castable E name).before args s = true) (hcell : H[q]? = some ce) (hv : ce.vm = .none) (hcl : s.vm.findClass E = some ce.cls)
    (kk : W p l e R s m args below meth c H locs cells slots Q (F0 m x.handlerPc ls [.ref q])) : vx_W p l e R s m args below meth c H locs cells slots Q (F0 m pc ls rest) q := by
  intro T hT X
  have hpl : e.platform.magicAccessors = ({} : Platform).magicAccessors := by rw [X.admits.platform]
  obtain ⟨c3, c4, hc3, hc4, hasg⟩ := Cond.castable_spec hcast
  obtain ⟨c5, hc5, hl5⟩ := Cond.classLink_spec hown hlink e.platform hpl
  have e3 : c3 = ce.cls := Option.some.inj (hc3.symm.trans hcl)
  have e4 : c5 = c4 := Option.some.inj (hc5.symm.trans hc4)
  subst e4
  rw [e3] at hasg
  obtain ⟨kx, zx, -⟩ := Vm.findClass_spec hcl
  obtain ⟨vm', w1, w2⟩ := vy_go (e := e) (f := F0 m pc ls rest) (a := q) (suf := suf) hv ⟨kx, zx⟩ hx h0 hl5 hasg pre ((T.setTop (F0 m pc ls rest)).pushFrame (.throwing q)) X.warmed (by show T.heap[q]? = some ce; rw [hT]; exact hcell) (fun z hz => by
    rcases hpass z hz with h | ⟨z0, nm, l1, a8, b8, g1, g2, g3⟩
    · exact Or.inl h
    · obtain ⟨c6, hc6, hl6⟩ := Cond.classLink_spec hown l1 e.platform hpl
      have e1 : a8 = ce.cls := Option.some.inj (g1.symm.trans hcl)
      have e2 : c6 = b8 := Option.some.inj (hc6.symm.trans g2)
      exact Or.inr ⟨z0, c6, hl6, by rw [e2, ← e1]; exact g3⟩)
  obtain ⟨t, a1, b1⟩ := kk (T.setVm vm') hT (X.noted w1)
  refine ⟨t, ?_, b1⟩
  have hA : At T (F0 m pc ls rest).method c below := X.here
  obtain ⟨hgo, hw⟩ := hA.throwing q
  obtain ⟨g0, hg0⟩ := Option.isSome_iff_exists.mp hA.top
  obtain ⟨r, hr⟩ := State.topJava?_eq_some.mp hg0
  have hm' : ((T.setTop (F0 m pc ls rest)).pushFrame (.throwing q)).vm.method? (F0 m pc ls rest).method = some meth := X.method'
  have hfind : ∀ (Q : Handler → Pre) (E : CtlPost) (d : Bool) (acts : List Action), wp (findHandler (F0 m pc ls rest) q) Q E e d acts ((T.setTop (F0 m pc ls rest)).pushFrame (.throwing q)) ↔ Q (.found x.handlerPc) d acts (((T.setTop (F0 m pc ls rest)).pushFrame (.throwing q)).setVm vm') := fun Q E d acts => by
    rw [W.findHandler_eq hm' X.code, hsplit]; exact w2 Q E d acts
  have hstep : (stepThrowing e ((T.setTop (F0 m pc ls rest)).pushFrame (.throwing q)) q (.java (F0 m pc ls rest) :: r)).Is ((((T.setTop (F0 m pc ls rest)).pushFrame (.throwing q)).setVm vm').setFrames (.java (F0 m x.handlerPc ls [.ref q]) :: r)) [] := by
    simp only [stepThrowing, searchFrame, vmDo]
    generalize hres : Sem.go _ e false [] _ = res
    obtain ⟨as, rfl, ha⟩ := Sem.eq_ok_of hres (a := Handler.found x.handlerPc) (s' := ((T.setTop (F0 m pc ls rest)).pushFrame (.throwing q)).setVm vm') (acts' := []) (by simp [hfind _ _ _ _])
    exact ⟨rfl, ha⟩
  refine Steps.head hgo hw ?_
  rw [stepThread_throwing (frames_entered hA.top _), hr, List.tail_cons, hstep.1]
  have hr' : (T.setVm vm').frames = .java g0 :: r := hr
  rw [State.setTop_of_frames _ hr'] at a1
  have e9 : (((T.setTop (F0 m pc ls rest)).pushFrame (.throwing q)).setVm vm').setFrames (.java (F0 m x.handlerPc ls [.ref q]) :: r) = (T.setVm vm').setFrames (.java (F0 m x.handlerPc ls [.ref q]) :: r) := by
    rw [State.pushFrame, State.setTop_of_frames _ hr, State.setFrames_setFrames]
    show ((T.setVm vm').setFrames _).setFrames _ = _
    rw [State.setFrames_setFrames]
  rw [e9]
  exact a1
theorem Met.ofWH {l : Launch} {y : MethodName} {ws ws' : List Cond} {rm : Room} {Pc : Array Value → State → Prop} {Qc : Array Value → State → Outcome → State → Prop} {mc ms : Nat} {free : Addr → Prop} {cc : ByteArray} {maxL : Nat} {ret : Option FieldType} {hh : List (Nat × Nat × Nat × Nat)}
    (hy : plainName y.cls = true) (hw : ws = Cond.codeWith y cc maxL ret hh :: ws')
    (body : ∀ p e s m args below meth c s₁, BodyLoose p l y (headSpec ws rm) cc maxL ret e s m args below meth c s₁ → c.maxLocals = maxL → Pc args s →
      W p l e (headSpec ws rm).room s m args below meth c s.heap [] 0 0 (MQ below Qc args s mc ms free) (entryFrame m args maxL)) : Met l y ws rm Pc Qc mc ms free := by
  refine MetFree.of_bodyS (code := cc) (maxLocals := maxL) (ret := ret) hy ?_ ?_
  · intro args s m h hn
    obtain ⟨m9, meth, c, hn9, h1, h2, h3, h4, -, h5, h6, -⟩ := Cond.codeWith_spec (atoms_spec (ws := ws) h _ (by rw [hw]; exact List.mem_cons_self))
    cases hn.symm.trans hn9
    exact ⟨meth, c, h1, h2, h3, h4, h5, h6⟩
  · intro p e s m args below meth c s₁ B hml hP _
    have hh0 : s₁.heap = s.heap := by rw [B.state]; rfl
    obtain ⟨t, a1, o, b1, b2, b3⟩ := body p e s m args below meth c s₁ B hml hP s₁ hh0 (Stand.of_body B)
    exact ⟨t, o, a1, b1, b2, b3⟩
/-- what the law's helpers need beside: a state's exception is not an argument's -/
def ah_PH (G : ah_G) (av : List Value) (h : ah_H) : Array Value → State → Prop := va_Pc av (fun U => (ah_P G h U ∧ ah_X G U) ∧ va_Nc eIS eIA U)
theorem ah_blindH {G : ah_G} {av : List Value} {h : ah_H} : FrameBlind (ah_PH G av h) := fun a U g mk q => ⟨q.1, ⟨⟨ah_E.calling g mk a q.2.1.1.1, q.2.1.1.2⟩, ah_X.calling g mk a q.2.1.2⟩, va_Nc.moved (Vm.Alike.refl U.vm) q.2.2⟩
theorem ah_preH {G : ah_G} {av : List Value} {h : ah_H} {s : State} {H : Heap} {locs : List Loc} (hE : ah_E G s) (hX : ah_X G s) (hN : va_Nc eIS eIA s) (hR : ah_R G h H) (hS : va_S (ah_A G) s.heap H locs) : PreS s H (ah_PH G av h) av :=
  ⟨ah_blindH, fun U hU hW => ⟨rfl, ⟨⟨hE.at hS hU hW, by rw [hU]; exact hR⟩, hX.at hS hU hW⟩, va_Nc.moved hW.alike hN⟩⟩
theorem ah_ofH {l : Launch} {G : ah_G} {h : ah_H} {av : List Value} {y : MethodName} {ws ws' : List Cond} {rm : Room} {Qc : Array Value → State → Outcome → State → Prop} {mc ms : Nat} {cc : ByteArray} {maxL : Nat} {ret : Option FieldType} {hh : List (Nat × Nat × Nat × Nat)}
    (hy : plainName y.cls = true) (hw : ws = Cond.codeWith y cc maxL ret hh :: ws') (hlen : (lg_sl av).length ≤ maxL)
    (body : ∀ (p : Program) (e : Env) (s : State) (m : MethodId) (below : List Frame) (meth : Method) (c : Code) (ls : Array Slot), p.tables.exec = Jvm.exec → c.code = cc → meth.sig.returnType = ret → c.maxLocals = maxL → s.vm.findClass y.cls = some m.cls → meth.locks = false → meth.name = y.name → (∀ w ∈ ws, w.before av.toArray s = true) → c.exceptionTable.toList = tableOf hh → va_Nc eIS eIA s → ah_X G s → ah_E G s → ah_R G h s.heap → va_S (ah_A G) s.heap s.heap [] → lv_has ls maxL (lv_args 0 av) →
      W p l e rm s m av.toArray below meth c s.heap [] 0 0 (MQ below Qc av.toArray s mc ms (ah_A G)) (F0 m 0 ls [])) : Met l y ws rm (ah_PH G av h) Qc mc ms (ah_A G) := by
  refine Met.ofWH (cc := cc) (maxL := maxL) (ret := ret) (hh := hh) hy hw ?_
  intro p e s m args below meth c s₁ B hml hv
  obtain ⟨rfl, ⟨⟨hE, hR⟩, hX⟩, hN⟩ := hv
  have hl := lv_entry av (n := maxL) hlen
  have hts := atoms_spec (ws := ws) B.pre
  have htab := vx_table (x := y) B (hts _ (by rw [hw]; exact List.mem_cons_self))
  rw [lg_entry_eq]
  generalize (lg_sl av ++ List.replicate (maxL - (lg_sl av).length) Slot.unset).toArray = ls at hl ⊢
  exact body p e s m below meth c ls B.exec B.bytes B.returns hml (findClass_of_methodNamed B.named) B.notSynchronized (name_of_methodNamed B.named B.method).1 hts htab hN hX hE hR va_S.rf hl
section AHL
variable {p : Program} {l : Launch} {e : Env} {R : Room} {s : State} {m : MethodId} {args : Array Value} {below : List Frame} {meth : Method} {c : Code} {H : Heap} {locs : List Loc} {cells slots : Nat} {Q : State → Prop}
variable {cc : ByteArray} {pc : Nat} {ls : Array Slot} {rest st0 : List Value} {G : ah_G} {h : ah_H} {a t : Nat} {mc ms : Nat} {av : Array Value}
theorem ah_callX {post : Int32 → ah_H → Prop} {px : String → ah_H → Prop} (hr : vx_Run p l e R s m args below meth c H locs cells slots mc ms (F0 m pc ls st0) rest (ah_Qi G post av) (ah_QX G px) (ah_A G)) (hS : va_S (ah_A G) s.heap H locs)
    (kx : ∀ (E : String) (ce : Cell) (q9 : Addr) (h1 : ah_H) (H1 : Heap) (locs1 : List Loc), px E h1 → ah_R G h1 H1 → va_S (ah_A G) s.heap H1 locs1 → H1[q9]? = some ce → ce.vm = .none → s.vm.findClass E = some ce.cls → vx_W p l e R s m args below meth c H1 locs1 (cells + mc) (slots + ms) Q (F0 m pc ls rest) q9)
    (kk : ∀ (r : Int32) (h1 : ah_H) (H1 : Heap) (locs1 : List Loc), post r h1 → ah_R G h1 H1 → va_S (ah_A G) s.heap H1 locs1 → W p l e R s m args below meth c H1 locs1 (cells + mc) (slots + ms) Q (F0 m (pc + 3) ls (.int r :: rest))) : W p l e R s m args below meth c H locs cells slots Q (F0 m pc ls st0) :=
  vx_calli hr hS (fun _ _ z => z) (fun _ z => z) (fun _ _ z => z) (fun E ce q9 u t H1 locs1 ht _ hp hB _ _ hS1 hc hv hcl => by
    obtain ⟨hE, hB⟩ := hB
    subst hE
    exact kx u.1 ce q9 u.2 H1 locs1 hp (by subst ht; exact hB) hS1 hc hv hcl) (fun r u t H1 locs1 ht _ hp hB _ _ hS1 => kk r u H1 locs1 hp (by subst ht; exact hB) hS1)
theorem ah_lald (hx : p.tables.exec = Jvm.exec) (hb : c.code = cc) (hE : ah_E G s) (hR : ah_R G h H) {n i : Nat} {f : Nat → Int64} (ha : h a = some (t, .inl (G.2.2.1 4, n, .inr (.inl f)))) (hi : i < n) (hn : n < 2 ^ 31) (hdg : decode cc pc = .ok (.laload, 1))
    (kk : W p l e R s m args below meth c H locs cells slots Q (F0 m (pc + 1) ls (.long (f i) :: rest))) : W p l e R s m args below meth c H locs cells slots Q (F0 m pc ls (.int (nI i) :: .ref a :: rest)) := by
  obtain ⟨ws, hP, hD, hcv⟩ := hR
  obtain ⟨q0, he⟩ := hcv a t _ ha
  exact va_lald hx hb hE.2.1 hP q0 4 he rfl (vp_in_nI hi hn) hdg (by rw [nI_clamp (Nat.lt_trans hi hn)]; exact kk)
theorem ah_last (hx : p.tables.exec = Jvm.exec) (hb : c.code = cc) (hE : ah_E G s) (hR : ah_R G h H) (hS : va_S (ah_A G) s.heap H locs) {n i : Nat} {f : Nat → Int64} {x : Int64} (ha : h a = some (t, .inl (G.2.2.1 4, n, .inr (.inl f)))) (hi : i < n) (hn : n < 2 ^ 31) (hdg : decode cc pc = .ok (.lastore, 1))
    (kk : ∀ (H1 : Heap) (locs1 : List Loc), ah_R G (ah_up h a (t, .inl (G.2.2.1 4, n, .inr (.inl (vp_updL f i x))))) H1 → va_S (ah_A G) s.heap H1 locs1 → W p l e R s m args below meth c H1 locs1 cells slots Q (F0 m (pc + 1) ls rest)) : W p l e R s m args below meth c H locs cells slots Q (F0 m pc ls (.long x :: .int (nI i) :: .ref a :: rest)) := by
  obtain ⟨ws, hP, hD, hcv⟩ := hR
  obtain ⟨q0, he⟩ := hcv a t _ ha
  refine va_last hx hb hE.2.1 hP hD hS q0 4 he rfl (vp_in_nI hi hn) hdg (fun H1 locs1 hP1 hD1 hS1 => ?_)
  rw [nI_clamp (Nat.lt_trans hi hn)] at hP1 hD1
  exact kk H1 locs1 ⟨_, hP1, hD1, ah_cset hcv he⟩ hS1
theorem ah_newl (hx : p.tables.exec = Jvm.exec) (hb : c.code = cc) (hE : ah_E G s) (hR : ah_R G h H) (hS : va_S (ah_A G) s.heap H locs) (harr : (Cond.arrayClass .long).before args s = true) (t : Nat) {n : Nat} (hn : n * 8 ≤ 536870912) (hcells : cells + 1 ≤ R.cells) (hslots : slots + n ≤ R.slots) (hdg : decode cc pc = .ok (.newarray .long, 2))
    (kk : ∀ (q : Nat) (H1 : Heap), h q = none → ah_R G (ah_up h q (t, .inl (G.2.2.1 4, n, .inr (.inl (fun _ => 0))))) H1 → va_S (ah_A G) s.heap H1 locs → W p l e R s m args below meth c H1 locs (cells + 1) (slots + n) Q (F0 m (pc + 2) ls (.ref q :: rest))) : W p l e R s m args below meth c H locs cells slots Q (F0 m pc ls (.int (nI n) :: rest)) := by
  obtain ⟨ws, hP, hD, hcv⟩ := hR
  have h31 : n < 2 ^ 31 := by omega
  have hn4 : n * componentBytes .long ≤ 536870912 := hn
  have ha0 : ∀ cA : ClassId, vp_cell cA (n, .inr (.inl (fun _ => 0))) = arrV cA n (fun _ => defaultValue .long) := fun cA => vp_cell_l cA n _
  refine va_newa (atype := .long) (ty := .long) (a0 := (n, .inr (.inl (fun _ => 0)))) (N' := n) hx hb harr rfl hE.2.1 hP hD hS hE.A ha0 (nI_pos h31) (nI_clamp h31) hn4 hcells hslots hdg ?_
  intro q cA H1 hK1 hP1 hD1 hS1
  have k1 : s.vm.findClass ("[" ++ FieldType.long.toString) = some cA := (hK1.2 5 (cA, .long) rfl).2
  have k0 : s.vm.findClass ("[" ++ FieldType.long.toString) = some (G.2.2.1 4) := (hE.2.1.2 4 (G.2.2.1 4, .long) rfl).2
  have e1 : cA = G.2.2.1 4 := Option.some.inj (k1.symm.trans k0)
  subst e1
  exact kk q H1 (ah_fresh hcv hD1) ⟨_, hP1, hD1, ah_cpush hcv⟩ hS1
end AHL
