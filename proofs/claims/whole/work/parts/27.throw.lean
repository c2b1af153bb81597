/-! ===== methods that throw: what they need, their head, the throw itself ===== -/
abbrev nRT : MethodName := { cls := "java/lang/RuntimeException", name := "<init>", desc := "(Ljava/lang/String;)V" }
abbrev nEX : MethodName := { cls := "java/lang/Exception", name := "<init>", desc := "(Ljava/lang/String;)V" }
abbrev nTH : MethodName := { cls := "java/lang/Throwable", name := "<init>", desc := "(Ljava/lang/String;)V" }
abbrev eIA : String := "java/lang/IllegalArgumentException"
abbrev eIS : String := "java/lang/IllegalStateException"
abbrev eUO : String := "java/lang/UnsupportedOperationException"
def sR (k : Nat) (tx : String) (U : State) : Prop := ∃ a, vk_R RX8 k tx a U
def ah_XS (U : State) : Prop := sR 46 "a unit is 0 .. 65535" U ∧ sR 56 "the text is full" U ∧ sR 87 "what is 0 .. 7" U ∧ sR 91 "more than 255 parts" U ∧ sR 102 "no such part" U ∧ sR 112 "no such part or sender" U ∧ sR 118 "no such part or byte" U ∧ sR 124 "n is 0 .. 8" U ∧ sR 126 "more than 200 bytes at hand" U ∧ sR 129 "a sender is 0 .. 999" U ∧ sR 137 "what is 0 .. 3" U
def ah_XW (U : State) : Prop := va_Nw (.declares nRT) U ∧ va_Nw (.declares nEX) U ∧ va_Nw (.declares nTH) U ∧ va_Nw (.castable eIA eIA) U ∧ va_Nw (.castable eIS eIS) U ∧ va_Nw (.castable eUO eUO) U
/-- what a throw needs of a state -/
def ah_X (G : ah_G) (U : State) : Prop := vx_Zq Bundle.tN "UNASSIGNED_STACK" Bundle.steD (ah_A G) U U.heap ∧ vx_Zq Bundle.tN "SUPPRESSED_SENTINEL" Bundle.listD (ah_A G) U U.heap ∧ ah_XW U ∧ ah_XS U
theorem sR.at {k : Nat} {tx : String} {s U : State} (h : sR k tx s) (hW : s.WarmedH U.vm) : sR k tx U := by obtain ⟨a, h⟩ := h; exact ⟨a, vk_R.warm hW h⟩
theorem sR.same {k : Nat} {tx : String} {s U : State} (h : sR k tx s) (hv : U.vm = s.vm) : sR k tx U := by obtain ⟨a, h⟩ := h; exact ⟨a, vk_R.same hv h⟩
theorem ah_X.at {G : ah_G} {s U : State} {H : Heap} {locs : List Loc} (h : ah_X G s) (hS : va_S (ah_A G) s.heap H locs) (hU : U.heap = H) (hW : s.WarmedH U.vm) : ah_X G U := by
  subst hU
  obtain ⟨h1, h2, ⟨a1, a2, a3, a4, a5, a6⟩, ⟨b1, b2, b3, b4, b5, b6, b7, b8, b9, b10, b11⟩⟩ := h
  have hv := hW.alike
  exact ⟨vx_Zq.moved hv (h1.kept hS.2.1), vx_Zq.moved hv (h2.kept hS.2.1), ⟨va_Nw.warmD hW a1, va_Nw.warmD hW a2, va_Nw.warmD hW a3, va_Nw.warmC hW a4, va_Nw.warmC hW a5, va_Nw.warmC hW a6⟩, ⟨b1.at hW, b2.at hW, b3.at hW, b4.at hW, b5.at hW, b6.at hW, b7.at hW, b8.at hW, b9.at hW, b10.at hW, b11.at hW⟩⟩
theorem ah_X.calling {G : ah_G} {U : State} (g : JFrame) (mk : MethodId) (a : Array Value) (h : ah_X G U) : ah_X G (U.calling g mk a) := by
  obtain ⟨h1, h2, ⟨a1, a2, a3, a4, a5, a6⟩, ⟨b1, b2, b3, b4, b5, b6, b7, b8, b9, b10, b11⟩⟩ := h
  have hv : U.vm.Alike (U.calling g mk a).vm := Vm.Alike.refl U.vm
  exact ⟨vx_Zq.moved hv h1, vx_Zq.moved hv h2, ⟨va_Nw.same rfl rfl a1, va_Nw.same rfl rfl a2, va_Nw.same rfl rfl a3, va_Nw.same rfl rfl a4, va_Nw.same rfl rfl a5, va_Nw.same rfl rfl a6⟩, ⟨b1.same rfl, b2.same rfl, b3.same rfl, b4.same rfl, b5.same rfl, b6.same rfl, b7.same rfl, b8.same rfl, b9.same rfl, b10.same rfl, b11.same rfl⟩⟩
def ah_Px (G : ah_G) (av : List Value) (h : ah_H) : Array Value → State → Prop := va_Pc av (fun U => ah_P G h U ∧ ah_X G U)
abbrev ah_QX (G : ah_G) (px : String → ah_H → Prop) : String → State → State → Prop := vx_X (fun u : String × ah_H => px u.1 u.2) (fun E u t => E = u.1 ∧ ah_R G u.2 t.heap) (ah_A G)
theorem ah_blindX {G : ah_G} {av : List Value} {h : ah_H} : FrameBlind (ah_Px G av h) := fun a U g mk q => ⟨q.1, ⟨ah_E.calling g mk a q.2.1.1, q.2.1.2⟩, ah_X.calling g mk a q.2.2⟩
theorem ah_preXV {G : ah_G} {As : List Value} {h : ah_H} {s : State} {H : Heap} {locs : List Loc} {b t ci : Nat} {fs : List Value} {q : vw_C} (hE : ah_E G s) (hX : ah_X G s) (hR : ah_R G h H) (hS : va_S (ah_A G) s.heap H locs) (hb : h b = some (t, .inr (ci, fs))) (hc : vwCl[ci]? = some q) : PreV s H q.1 b (ah_Px G (.ref b :: As) h) As := by
  refine ⟨ah_blindX, ?_, fun U hU hW => ⟨rfl, ⟨hE.at hS hU hW, by rw [hU]; exact hR⟩, hX.at hS hU hW⟩⟩
  obtain ⟨ws, hP, hD, hcv⟩ := hR
  obtain ⟨k, hk⟩ := hcv b t _ hb
  exact va_recv hE.2.1 hP hc hk
theorem ah_R.ext {G : ah_G} {h : ah_H} {H H1 : Heap} (hR : ah_R G h H) (hq : ∀ q : Nat, q < H.size → H1[q]? = H[q]?) : ah_R G h H1 := by
  obtain ⟨ws, hP, hD, hcv⟩ := hR
  exact ⟨ws, hP.kept (fun k q hk => hq q.1 (vx_lt hP hk)), hD, hcv⟩
section AHX
variable {p : Program} {l : Launch} {e : Env} {R : Room} {s : State} {m : MethodId} {args : Array Value} {below : List Frame} {meth : Method} {c : Code} {H : Heap} {locs : List Loc} {cells slots : Nat} {Q : State → Prop}
variable {cc : ByteArray} {pc : Nat} {ls : Array Slot} {G : ah_G} {h : ah_H} {mc ms : Nat} {Qc : Array Value → State → Outcome → State → Prop} {px : String → ah_H → Prop}
theorem ah_thr {E tx : String} {ik is ic : Nat} (hx : p.tables.exec = Jvm.exec) (hb : c.code = cc) (hlt : l.stackTraces = false) (hown : s.vm.findClass RX8 = some m.cls) (hfit : Bundle.fit E = true)
    (hk : (Cond.classLink RX8 ik E).before args s = true) (hini : (Cond.initialized E).before args s = true) (hstr : sR is tx s)
    (hgw : ∀ w ∈ (vx_atS RX8 ic E ["java/lang/RuntimeException", "java/lang/Exception"]).filter goodWord, w.before args s = true)
    (hbw : ∀ w ∈ (vx_atS RX8 ic E ["java/lang/RuntimeException", "java/lang/Exception"]).filter (fun w => !goodWord w), w ∈ [Cond.declares nRT, .declares nEX, .declares nTH, .castable E E]) (hca : va_Nw (.castable E E) s)
    (hgood : ∀ w ∈ Cond.classLink RX8 ik E :: Cond.initialized E :: vx_atS RX8 ic E ["java/lang/RuntimeException", "java/lang/Exception"], vx_ot w = true)
    (hX : ah_X G s) (hR : ah_R G h H) (hS : va_S (ah_A G) s.heap H locs) (hsize : ls.size = c.maxLocals)
    (d0 : decode cc pc = .ok (.new ik, 3)) (d3 : decode cc (pc + 3) = .ok (.dup, 1)) (d4 : decode cc (pc + 4) = .ok (.ldc is, 2)) (d6 : decode cc (pc + 6) = .ok (.invokespecial ic, 3)) (d9 : decode cc (pc + 9) = .ok (.athrow, 1))
    (hout : ∀ x ∈ c.exceptionTable.toList, False) (hfr : 6 ≤ R.frames) (hlo : 82 ≤ R.locals) (hrc : cells + 1 ≤ R.cells) (hrs : slots + 6 ≤ R.slots) (hlocks : meth.locks = false) (hp : px E h) (hc : cells + 1 ≤ mc) (hs : slots + 6 ≤ ms) :
    W p l e R s m args below meth c H locs cells slots (vx_MQ below Qc (ah_QX G px) args s mc ms (ah_A G)) (F0 m pc ls []) := by
  obtain ⟨sa, hsa⟩ := hstr
  refine vx_throwS (own := RX8) (cls := E) (text := tx) (names := ["java/lang/RuntimeException", "java/lang/Exception"]) (ik := ik) (is := is) (ic := ic) (sa := sa) (A := ah_A G) hx hb hlt hown hfit (by decide) hk hini hsa
    (vx_hat hgw hbw (vx_c (va_Nw.use rfl hX.2.2.1.1) (vx_c (va_Nw.use rfl hX.2.2.1.2.1) (vx_c (va_Nw.use rfl hX.2.2.1.2.2.1) (vx_c (va_Nw.use rfl hca) vx_n))))) hgood hX.1 hX.2.1 hS hsize d0 d3 d4 d6 d9 (fun x hx => (hout x hx).elim) hfr hlo hrc hrs hlocks
    (fun t _ h1 h2 => ⟨(E, h), hp, ⟨rfl, hR.ext h2⟩, Nat.le_trans hS.1 h1, fun q h3 h4 => by rw [h2 q (Nat.lt_of_lt_of_le h3 hS.1)]; exact hS.2.1 q h3 h4⟩) hS.2.2 hc hs
end AHX
theorem ah_ofX {l : Launch} {G : ah_G} {h : ah_H} {av : List Value} {y : MethodName} {ws ws' : List Cond} {rm : Room} {Qc : Array Value → State → Outcome → State → Prop} {XC : String → State → State → Prop} {mc ms : Nat} {cc : ByteArray} {maxL : Nat} {ret : Option FieldType}
    (hy : plainName y.cls = true) (hw : ws = Cond.code y cc maxL ret :: ws') (hlen : (lg_sl av).length ≤ maxL)
    (body : ∀ (p : Program) (e : Env) (s : State) (m : MethodId) (below : List Frame) (meth : Method) (c : Code) (ls : Array Slot), p.tables.exec = Jvm.exec → c.code = cc → meth.sig.returnType = ret → c.maxLocals = maxL → s.vm.findClass y.cls = some m.cls → meth.locks = false → meth.name = y.name → (∀ w ∈ ws, w.before av.toArray s = true) → (∀ x ∈ c.exceptionTable.toList, False) → ah_X G s → ah_E G s → ah_R G h s.heap → va_S (ah_A G) s.heap s.heap [] → lv_has ls maxL (lv_args 0 av) →
      W p l e rm s m av.toArray below meth c s.heap [] 0 0 (vx_MQ below Qc XC av.toArray s mc ms (ah_A G)) (F0 m 0 ls [])) : vx_Met l y ws rm (ah_Px G av h) Qc XC mc ms (ah_A G) := by
  refine vx_ofW (cc := cc) (maxL := maxL) (ret := ret) hy hw ?_
  intro p e s m args below meth c s₁ B hml ht hv
  obtain ⟨rfl, ⟨hE, hR⟩, hX⟩ := hv
  have hl := lv_entry av (n := maxL) hlen
  rw [lg_entry_eq]
  generalize (lg_sl av ++ List.replicate (maxL - (lg_sl av).length) Slot.unset).toArray = ls at hl ⊢
  exact body p e s m below meth c ls B.exec B.bytes B.returns hml (findClass_of_methodNamed B.named) B.notSynchronized (name_of_methodNamed B.named B.method).1 (atoms_spec (ws := ws) B.pre) ht hX hE hR va_S.rf hl
