section
-- ===== PART A: goes FIRST, ahead of the names: the tables' words, and 'selects' of the private methods out of them =====
/-- a private method of a class that the tables say can be made, by its rows of tables_1 -/
def lw_okq (q : MethodName × Nat) : Prop := (q.1.cls ≠ "java/lang/invoke/MethodHandle" ∧ q.1.cls ≠ "java/lang/invoke/VarHandle") ∧ Cond.instantiable q.1.cls q.2 ∈ tables_1 ∧ Cond.privateMethod q.1 ∈ tables_1 ∧ Cond.instanceMethod q.1 ∈ tables_1
theorem lw_p0 : lw_okq (⟨"java/lang/Throwable", "fillInStackTrace", "(I)Ljava/lang/Throwable;"⟩, 6) := ⟨⟨by decide +kernel, by decide +kernel⟩, List.mem_of_getElem? (i := 224) (by decide +kernel), List.mem_of_getElem? (i := 222) (by decide +kernel), List.mem_of_getElem? (i := 223) (by decide +kernel)⟩
theorem lw_p1 : lw_okq (⟨"TextParts$Text", "fitsAlone", "()Z"⟩, 4) := ⟨⟨by decide +kernel, by decide +kernel⟩, List.mem_of_getElem? (i := 29) (by decide +kernel), List.mem_of_getElem? (i := 312) (by decide +kernel), List.mem_of_getElem? (i := 313) (by decide +kernel)⟩
theorem lw_p2 : lw_okq (⟨"TextParts$Text", "sevensEnd", "(I)I"⟩, 4) := ⟨⟨by decide +kernel, by decide +kernel⟩, List.mem_of_getElem? (i := 29) (by decide +kernel), List.mem_of_getElem? (i := 321) (by decide +kernel), List.mem_of_getElem? (i := 322) (by decide +kernel)⟩
theorem lw_p3 : lw_okq (⟨"TextParts$Text", "pairsEnd", "(I)I"⟩, 4) := ⟨⟨by decide +kernel, by decide +kernel⟩, List.mem_of_getElem? (i := 29) (by decide +kernel), List.mem_of_getElem? (i := 329) (by decide +kernel), List.mem_of_getElem? (i := 330) (by decide +kernel)⟩
theorem lw_p4 : lw_okq (⟨"TextParts$Row", "byteOrZero", "(I)I"⟩, 2) := ⟨⟨by decide +kernel, by decide +kernel⟩, List.mem_of_getElem? (i := 68) (by decide +kernel), List.mem_of_getElem? (i := 412) (by decide +kernel), List.mem_of_getElem? (i := 413) (by decide +kernel)⟩
theorem lw_p5 : lw_okq (⟨"TextParts$PartReader", "isWrongSize", "(I)Z"⟩, 7) := ⟨⟨by decide +kernel, by decide +kernel⟩, List.mem_of_getElem? (i := 89) (by decide +kernel), List.mem_of_getElem? (i := 468) (by decide +kernel), List.mem_of_getElem? (i := 469) (by decide +kernel)⟩
theorem lw_p6 : lw_okq (⟨"TextParts$PartReader", "isWrongHeader", "(LTextParts$Row;)Z"⟩, 7) := ⟨⟨by decide +kernel, by decide +kernel⟩, List.mem_of_getElem? (i := 89) (by decide +kernel), List.mem_of_getElem? (i := 473) (by decide +kernel), List.mem_of_getElem? (i := 474) (by decide +kernel)⟩
theorem lw_p7 : lw_okq (⟨"TextParts$PartReader", "hasStrayBits", "(LTextParts$Row;)Z"⟩, 7) := ⟨⟨by decide +kernel, by decide +kernel⟩, List.mem_of_getElem? (i := 89) (by decide +kernel), List.mem_of_getElem? (i := 477) (by decide +kernel), List.mem_of_getElem? (i := 478) (by decide +kernel)⟩
theorem lw_p8 : lw_okq (⟨"TextParts$PartReader", "collectPairs", "(LTextParts$Row;)I"⟩, 7) := ⟨⟨by decide +kernel, by decide +kernel⟩, List.mem_of_getElem? (i := 89) (by decide +kernel), List.mem_of_getElem? (i := 489) (by decide +kernel), List.mem_of_getElem? (i := 490) (by decide +kernel)⟩
theorem lw_p9 : lw_okq (⟨"TextParts$PartReader", "collectSevens", "(LTextParts$Row;)I"⟩, 7) := ⟨⟨by decide +kernel, by decide +kernel⟩, List.mem_of_getElem? (i := 89) (by decide +kernel), List.mem_of_getElem? (i := 493) (by decide +kernel), List.mem_of_getElem? (i := 494) (by decide +kernel)⟩
theorem lw_p10 : lw_okq (⟨"TextParts$Inbox", "keep", "(I[I)Z"⟩, 5) := ⟨⟨by decide +kernel, by decide +kernel⟩, List.mem_of_getElem? (i := 83) (by decide +kernel), List.mem_of_getElem? (i := 522) (by decide +kernel), List.mem_of_getElem? (i := 523) (by decide +kernel)⟩
theorem lw_p11 : lw_okq (⟨"TextParts$Inbox", "placeOf", "(I)I"⟩, 5) := ⟨⟨by decide +kernel, by decide +kernel⟩, List.mem_of_getElem? (i := 83) (by decide +kernel), List.mem_of_getElem? (i := 526) (by decide +kernel), List.mem_of_getElem? (i := 527) (by decide +kernel)⟩
theorem lw_p12 : lw_okq (⟨"TextParts$Inbox", "begin", "(I)I"⟩, 5) := ⟨⟨by decide +kernel, by decide +kernel⟩, List.mem_of_getElem? (i := 83) (by decide +kernel), List.mem_of_getElem? (i := 534) (by decide +kernel), List.mem_of_getElem? (i := 535) (by decide +kernel)⟩
theorem lw_p13 : lw_okq (⟨"TextParts$Inbox", "longestUntouched", "()I"⟩, 5) := ⟨⟨by decide +kernel, by decide +kernel⟩, List.mem_of_getElem? (i := 83) (by decide +kernel), List.mem_of_getElem? (i := 538) (by decide +kernel), List.mem_of_getElem? (i := 539) (by decide +kernel)⟩
theorem lw_p14 : lw_okq (⟨"TextParts$Inbox", "removeHeap", "(I)V"⟩, 5) := ⟨⟨by decide +kernel, by decide +kernel⟩, List.mem_of_getElem? (i := 83) (by decide +kernel), List.mem_of_getElem? (i := 542) (by decide +kernel), List.mem_of_getElem? (i := 543) (by decide +kernel)⟩
theorem lw_p15 : lw_okq (⟨"TextPartsModel", "refuses", "(I)Z"⟩, 27) := ⟨⟨by decide +kernel, by decide +kernel⟩, List.mem_of_getElem? (i := 653) (by decide +kernel), List.mem_of_getElem? (i := 753) (by decide +kernel), List.mem_of_getElem? (i := 754) (by decide +kernel)⟩
def lw_privs_1 : List (MethodName × Nat) := [(⟨"java/lang/Throwable", "fillInStackTrace", "(I)Ljava/lang/Throwable;"⟩, 6), (⟨"TextParts$Text", "fitsAlone", "()Z"⟩, 4), (⟨"TextParts$Text", "sevensEnd", "(I)I"⟩, 4), (⟨"TextParts$Text", "pairsEnd", "(I)I"⟩, 4), (⟨"TextParts$Row", "byteOrZero", "(I)I"⟩, 2), (⟨"TextParts$PartReader", "isWrongSize", "(I)Z"⟩, 7), (⟨"TextParts$PartReader", "isWrongHeader", "(LTextParts$Row;)Z"⟩, 7), (⟨"TextParts$PartReader", "hasStrayBits", "(LTextParts$Row;)Z"⟩, 7), (⟨"TextParts$PartReader", "collectPairs", "(LTextParts$Row;)I"⟩, 7), (⟨"TextParts$PartReader", "collectSevens", "(LTextParts$Row;)I"⟩, 7), (⟨"TextParts$Inbox", "keep", "(I[I)Z"⟩, 5), (⟨"TextParts$Inbox", "placeOf", "(I)I"⟩, 5), (⟨"TextParts$Inbox", "begin", "(I)I"⟩, 5), (⟨"TextParts$Inbox", "longestUntouched", "()I"⟩, 5), (⟨"TextParts$Inbox", "removeHeap", "(I)V"⟩, 5), (⟨"TextPartsModel", "refuses", "(I)Z"⟩, 27)]
theorem lw_r1 : ∀ q ∈ lw_privs_1, lw_okq q := List.forall_mem_cons.mpr ⟨lw_p0, List.forall_mem_cons.mpr ⟨lw_p1, List.forall_mem_cons.mpr ⟨lw_p2, List.forall_mem_cons.mpr ⟨lw_p3, List.forall_mem_cons.mpr ⟨lw_p4, List.forall_mem_cons.mpr ⟨lw_p5, List.forall_mem_cons.mpr ⟨lw_p6, List.forall_mem_cons.mpr ⟨lw_p7, List.forall_mem_cons.mpr ⟨lw_p8, List.forall_mem_cons.mpr ⟨lw_p9, List.forall_mem_cons.mpr ⟨lw_p10, List.forall_mem_cons.mpr ⟨lw_p11, List.forall_mem_cons.mpr ⟨lw_p12, List.forall_mem_cons.mpr ⟨lw_p13, List.forall_mem_cons.mpr ⟨lw_p14, List.forall_mem_cons.mpr ⟨lw_p15, fun _ h => absurd h List.not_mem_nil⟩⟩⟩⟩⟩⟩⟩⟩⟩⟩⟩⟩⟩⟩⟩⟩
theorem lw_p16 : lw_okq (⟨"TextPartsModel", "sevens", "()I"⟩, 27) := ⟨⟨by decide +kernel, by decide +kernel⟩, List.mem_of_getElem? (i := 653) (by decide +kernel), List.mem_of_getElem? (i := 765) (by decide +kernel), List.mem_of_getElem? (i := 766) (by decide +kernel)⟩
theorem lw_p17 : lw_okq (⟨"TextPartsModel", "sevenOf", "(I)I"⟩, 27) := ⟨⟨by decide +kernel, by decide +kernel⟩, List.mem_of_getElem? (i := 653) (by decide +kernel), List.mem_of_getElem? (i := 769) (by decide +kernel), List.mem_of_getElem? (i := 770) (by decide +kernel)⟩
theorem lw_p18 : lw_okq (⟨"TextPartsModel", "partsOf", "(I)I"⟩, 27) := ⟨⟨by decide +kernel, by decide +kernel⟩, List.mem_of_getElem? (i := 653) (by decide +kernel), List.mem_of_getElem? (i := 773) (by decide +kernel), List.mem_of_getElem? (i := 774) (by decide +kernel)⟩
theorem lw_p19 : lw_okq (⟨"TextPartsModel", "fitting", "(IZ)I"⟩, 27) := ⟨⟨by decide +kernel, by decide +kernel⟩, List.mem_of_getElem? (i := 653) (by decide +kernel), List.mem_of_getElem? (i := 777) (by decide +kernel), List.mem_of_getElem? (i := 778) (by decide +kernel)⟩
theorem lw_p20 : lw_okq (⟨"TextPartsModel", "part", "(IIIZI)V"⟩, 27) := ⟨⟨by decide +kernel, by decide +kernel⟩, List.mem_of_getElem? (i := 653) (by decide +kernel), List.mem_of_getElem? (i := 795) (by decide +kernel), List.mem_of_getElem? (i := 796) (by decide +kernel)⟩
theorem lw_p21 : lw_okq (⟨"TextPartsModel", "puts", "(III)V"⟩, 27) := ⟨⟨by decide +kernel, by decide +kernel⟩, List.mem_of_getElem? (i := 653) (by decide +kernel), List.mem_of_getElem? (i := 799) (by decide +kernel), List.mem_of_getElem? (i := 800) (by decide +kernel)⟩
theorem lw_p22 : lw_okq (⟨"TextPartsModel", "reads", "(I)I"⟩, 27) := ⟨⟨by decide +kernel, by decide +kernel⟩, List.mem_of_getElem? (i := 653) (by decide +kernel), List.mem_of_getElem? (i := 819) (by decide +kernel), List.mem_of_getElem? (i := 820) (by decide +kernel)⟩
theorem lw_p23 : lw_okq (⟨"TextPartsModel", "fault", "()I"⟩, 27) := ⟨⟨by decide +kernel, by decide +kernel⟩, List.mem_of_getElem? (i := 653) (by decide +kernel), List.mem_of_getElem? (i := 823) (by decide +kernel), List.mem_of_getElem? (i := 824) (by decide +kernel)⟩
theorem lw_p24 : lw_okq (⟨"TextPartsModel", "bit", "(I)I"⟩, 27) := ⟨⟨by decide +kernel, by decide +kernel⟩, List.mem_of_getElem? (i := 653) (by decide +kernel), List.mem_of_getElem? (i := 827) (by decide +kernel), List.mem_of_getElem? (i := 828) (by decide +kernel)⟩
theorem lw_p25 : lw_okq (⟨"TextPartsModel", "seven", "(I)I"⟩, 27) := ⟨⟨by decide +kernel, by decide +kernel⟩, List.mem_of_getElem? (i := 653) (by decide +kernel), List.mem_of_getElem? (i := 831) (by decide +kernel), List.mem_of_getElem? (i := 832) (by decide +kernel)⟩
theorem lw_p26 : lw_okq (⟨"TextPartsModel", "alone", "(I)I"⟩, 27) := ⟨⟨by decide +kernel, by decide +kernel⟩, List.mem_of_getElem? (i := 653) (by decide +kernel), List.mem_of_getElem? (i := 835) (by decide +kernel), List.mem_of_getElem? (i := 836) (by decide +kernel)⟩
theorem lw_p27 : lw_okq (⟨"TextPartsModel", "begin", "(III)I"⟩, 27) := ⟨⟨by decide +kernel, by decide +kernel⟩, List.mem_of_getElem? (i := 653) (by decide +kernel), List.mem_of_getElem? (i := 839) (by decide +kernel), List.mem_of_getElem? (i := 840) (by decide +kernel)⟩
theorem lw_p28 : lw_okq (⟨"TextPartsModel", "gone", "(I)V"⟩, 27) := ⟨⟨by decide +kernel, by decide +kernel⟩, List.mem_of_getElem? (i := 653) (by decide +kernel), List.mem_of_getElem? (i := 843) (by decide +kernel), List.mem_of_getElem? (i := 844) (by decide +kernel)⟩
def lw_privs_2 : List (MethodName × Nat) := [(⟨"TextPartsModel", "sevens", "()I"⟩, 27), (⟨"TextPartsModel", "sevenOf", "(I)I"⟩, 27), (⟨"TextPartsModel", "partsOf", "(I)I"⟩, 27), (⟨"TextPartsModel", "fitting", "(IZ)I"⟩, 27), (⟨"TextPartsModel", "part", "(IIIZI)V"⟩, 27), (⟨"TextPartsModel", "puts", "(III)V"⟩, 27), (⟨"TextPartsModel", "reads", "(I)I"⟩, 27), (⟨"TextPartsModel", "fault", "()I"⟩, 27), (⟨"TextPartsModel", "bit", "(I)I"⟩, 27), (⟨"TextPartsModel", "seven", "(I)I"⟩, 27), (⟨"TextPartsModel", "alone", "(I)I"⟩, 27), (⟨"TextPartsModel", "begin", "(III)I"⟩, 27), (⟨"TextPartsModel", "gone", "(I)V"⟩, 27)]
theorem lw_r2 : ∀ q ∈ lw_privs_2, lw_okq q := List.forall_mem_cons.mpr ⟨lw_p16, List.forall_mem_cons.mpr ⟨lw_p17, List.forall_mem_cons.mpr ⟨lw_p18, List.forall_mem_cons.mpr ⟨lw_p19, List.forall_mem_cons.mpr ⟨lw_p20, List.forall_mem_cons.mpr ⟨lw_p21, List.forall_mem_cons.mpr ⟨lw_p22, List.forall_mem_cons.mpr ⟨lw_p23, List.forall_mem_cons.mpr ⟨lw_p24, List.forall_mem_cons.mpr ⟨lw_p25, List.forall_mem_cons.mpr ⟨lw_p26, List.forall_mem_cons.mpr ⟨lw_p27, List.forall_mem_cons.mpr ⟨lw_p28, fun _ h => absurd h List.not_mem_nil⟩⟩⟩⟩⟩⟩⟩⟩⟩⟩⟩⟩⟩
def lw_privs : List (MethodName × Nat) := lw_privs_1 ++ (lw_privs_2)
def lw_tbl : List Cond := k2_sels lw_privs ++ tables_1
theorem lw_privs_ok : ∀ q ∈ lw_privs, lw_okq q := by
  show ∀ q ∈ lw_privs_1 ++ (lw_privs_2), lw_okq q
  exact List.forall_mem_append.mpr ⟨lw_r1, lw_r2⟩
end
section
/-! ===== BEGIN words of one list among another's, by their places ===== -/
theorem goodIn_r {big : List Cond} (ws : List Cond) (ps : List Nat) (hp : ws = ps.filterMap (fun i => big[i]?)) (h : ws.all goodWord = true) : GoodIn big ws := by
  intro w hw
  have h1 := List.all_eq_true.mp h w hw
  rw [hp] at hw
  obtain ⟨i, -, hi⟩ := List.mem_filterMap.mp hw
  have hm : w ∈ big := by first | exact List.mem_of_getElem? hi | exact List.getElem?_mem hi
  exact ⟨hm, good_of_word h1⟩
theorem goodIn_app {big a b : List Cond} (ha : GoodIn big a) (hb : GoodIn big b) : GoodIn big (a ++ b) := fun w h => (List.mem_append.mp h).elim (ha w) (hb w)
theorem goodIn_ca {big a b : List Cond} {c : Cond} (ha : GoodIn big (c :: a)) (hb : GoodIn big b) : GoodIn big (c :: (a ++ b)) := fun w h => (List.mem_cons.mp h).elim (fun e => ha w (List.mem_cons.mpr (Or.inl e))) (fun h => (List.mem_append.mp h).elim (fun h => ha w (List.mem_cons.mpr (Or.inr h))) (hb w))
theorem goodIn_sub {big ws : List Cond} (hm : ∀ w ∈ ws, w ∈ big) (h : ws.all goodWord = true) : GoodIn big ws := fun w hw => ⟨hm w hw, good_of_word (List.all_eq_true.mp h w hw)⟩
/-! ===== END ===== -/

/-! ===== BEGIN exceptions that leave a method, and their catching by the caller (launches without stack traces) ===== -/
section VXA
/-! The laws vx_back, vx_callV, vx_callS, vx_callSW, vx_throw0, vx_throwS follow proofs of the library, with one case more: JvmDerived/Free/Laws.lean (Back.of_free), Shelf42/LK1.lean (callV, callS), Shelf/KitTraced.lean (throwNew0V, throwNewS). -/
/-- where a method has thrown q: the class by its name, the cell, what was written, the world -/
def vx_T (XC : String → State → State → Prop) (st : State) (q : Addr) (t : State) (mc ms : Nat) (free : Addr → Prop) : Prop :=
  ∃ (E : String) (ce : Cell) (L : List Loc), XC E st t ∧ t.heap[q]? = some ce ∧ ce.vm = .none ∧ st.vm.findClass E = some ce.cls ∧ st.WarmedH t.vm ∧ st.sameButNew ({ t with vm := st.vm } : State) L mc ms ∧ ∀ z ∈ L, free z.base
def vx_Q (Qc : Array Value → State → Outcome → State → Prop) (XC : String → State → State → Prop) (mc ms : Nat) (free : Addr → Prop) : Array Value → State → Outcome → State → Prop := fun a st o t =>
  (Qc a st o t ∧ ∃ L, FrameEnd st o t L mc ms ∧ ∀ q ∈ L, free q.base) ∨ ∃ q, o = .threw q ∧ vx_T XC st q t mc ms free
/-- a callee that returns or throws -/
def vx_Met (l : Launch) (y : MethodName) (ws : List Cond) (rm : Room) (Pc : Array Value → State → Prop) (Qc : Array Value → State → Outcome → State → Prop) (XC : String → State → State → Prop) (mc ms : Nat) (free : Addr → Prop) : Prop :=
  MetFree l y (headSpec ws rm) Pc (fun _ _ _ _ _ => True) (vx_Q Qc XC mc ms free)
def vx_Post (XC : String → State → State → Prop) (mc ms : Nat) (free : Addr → Prop) : Pt → Array Value → Addr → Pt → Prop := fun A a q B =>
  ∃ (g : JFrame) (mk : MethodId) (t : State) (L : List Loc) (E : String) (ce : Cell), B.U.heap = t.heap ∧ B.U.vm = t.vm ∧ XC E (A.U.calling g mk a) t ∧ t.heap[q]? = some ce ∧ ce.vm = .none ∧ A.U.vm.findClass E = some ce.cls ∧ B.locs = A.locs ++ L ∧ (∀ z ∈ L, free z.base) ∧ B.cells = A.cells + mc ∧ B.slots = A.slots + ms
def vx_Back (l : Launch) (R : Room) (p : Program) (e : Env) (below : List Frame) (s : State) (sargs : Array Value) (y : MethodName) (len W9 : Nat)
    (Pre : Pt → Array Value → Prop) (Post : Pt → Array Value → Option Value → Pt → Prop) (PostX : Pt → Array Value → Addr → Pt → Prop) : Prop :=
  ∀ (m : MethodId) (meth : Method) (c : Code) (A : Pt) (g : JFrame) (ig : Instr) (mk : MethodId) (a : Array Value),
    Stand p l e R s m sargs below meth c A.U A.locs A.cells A.slots → g.method = m → g.locals.size = c.maxLocals → decode c.code g.pc = .ok (ig, len) →
    2 * g.monitorRoom + (g.stack.map fun v => v.category).sum ≤ W9 → A.U.methodNamed? y = some mk → Pre A a →
    (∃ (v : Option Value) (B : Pt), Stand p l e R s m sargs below meth c B.U B.locs B.cells B.slots ∧ Post A a v B ∧
      Steps p.tables e below (doInvoke e (A.U.setTop g) [] mk a).1 (B.U.setTop { g with pc := g.pc + len, stack := v.toList ++ g.stack })) ∨
    (∃ (q : Addr) (B : Pt), Stand p l e R s m sargs below meth c B.U B.locs B.cells B.slots ∧ PostX A a q B ∧
      Steps p.tables e below (doInvoke e (A.U.setTop g) [] mk a).1 ((B.U.setTop g).pushFrame (.throwing q)))
section Payer
variable {l : Launch} {R : Room} {p : Program} {e : Env} {below : List Frame} {s : State} {sargs : Array Value} {y : MethodName} {len W9 : Nat}
theorem vx_back {ws : List Cond} {rm : Room} {Pc : Array Value → State → Prop} {Qc : Array Value → State → Outcome → State → Prop} {XC : String → State → State → Prop} {mc ms : Nat} {free : Addr → Prop} {bytes : ByteArray} {maxL : Nat} {ret : Option FieldType}
    (hM : vx_Met l y ws rm Pc Qc XC mc ms free) (hblind : FrameBlind Pc) (hrc : rm.cells = mc) (hrs : rm.slots = ms)
    (hframes : rm.frames + 1 ≤ R.frames) (hlocals : W9 + (maxL + 11) + rm.locals ≤ R.locals)
    (hws : ∀ w ∈ ws, ∀ a' U, s.WarmedH U.vm → w.before a' U = true) (hcode : Cond.code y bytes maxL ret ∈ ws) (hinit : ∀ a' U, s.WarmedH U.vm → (Cond.initialized y.cls).before a' U = true) :
    vx_Back l R p e below s sargs y len W9 (PreOf R mc ms Pc) (PostOf Qc mc ms free) (vx_Post XC mc ms free) := by
  intro m meth c A g ig mk a X hg hsize hdg hW hn hp
  have h1 : (headSpec ws rm).pre.before a A.U = true := atoms_intro fun w hw => hws w hw _ _ X.warmed
  have h2 : (Cond.code y bytes maxL ret).before a A.U = true := hws _ hcode _ _ X.warmed
  have h3 : (Cond.initialized y.cls).before a A.U = true := hinit _ _ X.warmed
  have h4 : A.cells + (headSpec ws rm).room.cells ≤ R.cells := by rw [show (headSpec ws rm).room.cells = mc from hrc]; exact hp.1
  have h5 : A.slots + (headSpec ws rm).room.slots ≤ R.slots := by rw [show (headSpec ws rm).room.slots = ms from hrs]; exact hp.2.1
  have hPc : Pc a (A.U.calling g mk a) := hblind _ _ _ _ hp.2.2
  obtain ⟨U, Ls, c0, s0⟩ := A
  dsimp only [Pt.U, Pt.locs, Pt.cells, Pt.slots] at h1 h2 h3 h4 h5 X hn hPc ⊢
  obtain ⟨methY, cY, hmY, hcY, -, hlY, -, -, -, -⟩ := Cond.code_spec hn h2
  obtain ⟨kY, hkY, -⟩ := className_of_methodNamed hn
  have hinitY : kY.init = .initialized := Cond.initialized_spec (findClass_of_methodNamed hn) hkY h3
  have h : At U g.method c below := by rw [hg]; exact X.here
  have hlocals9 : W9 + (maxL + 11) + (headSpec ws rm).room.locals ≤ R.locals := hlocals
  have happ : (headSpec ws rm).appliesLoose y e.platform (U.calling g mk a) = true :=
    Spec.appliesLoose_calling (g := g) h hdg hn hkY hinitY
      (X.room_calling (g := g) (R' := (headSpec ws rm).room) hsize hmY hcY hframes (by rw [hlY]; omega) h4 h5) h1
  obtain ⟨mid, hmid⟩ := h.above
  have hfr : (U.setTop g).frames = (.java g :: mid) ++ below := by rw [State.frames_setTop' g h.top, hmid]; rfl
  obtain ⟨o, s₂, hsteps, -, hend, hq⟩ := Steps.callFree hM p X.admits X.cas X.clock (acts := []) hfr happ hPc trivial
  have hq' : vx_Q Qc XC mc ms free a (U.calling g mk a) o s₂ := hq
  rw [State.frames_setTop' g h.top] at hend
  obtain ⟨g₀, hg0⟩ := Option.isSome_iff_exists.mp h.top
  obtain ⟨r, hr⟩ := State.topJava?_eq_some.mp hg0
  have hr' : (({ U with heap := s₂.heap, slotsUsed := s₂.slotsUsed } : State).setVm s₂.vm).frames = .java g₀ :: r := hr
  rcases hq' with ⟨hqc, L, hfe, hL⟩ | ⟨q, rfl, E, ce, L, hx, hce, hcv, hcl, hW₂, hsm, hL⟩
  · obtain ⟨⟨v, rfl⟩, hW₂, e2, q2, q3, q4, q5, q6⟩ := id hfe
    have e3 : s₂ = ({ (U.calling g mk a).setFrames s₂.frames with heap := s₂.heap, slotsUsed := s₂.slotsUsed } : State).setVm s₂.vm := by
      have : s₂ = ({ s₂ with vm := (U.calling g mk a).vm } : State).setVm s₂.vm := rfl
      rw [e2] at this
      exact this
    obtain ⟨c₂, i₂, len₂, hc₂, hd₂, hf₂⟩ := hend
    have hW' : U.WarmedH s₂.vm := hW₂
    have hcc : c₂ = c := by
      have h1 : s₂.code? g.method = U.code? g.method := by
        rw [State.code?_eq, State.code?_eq, hW'.alike.method?]
      exact Option.some.inj (hc₂.symm.trans (h1.trans h.code))
    subst hcc
    have hlen : len₂ = len := by rw [hdg] at hd₂; cases hd₂; rfl
    subst hlen
    have hs₂ : s₂ = (({ U with heap := s₂.heap, slotsUsed := s₂.slotsUsed } : State).setVm s₂.vm).setTop { g with pc := g.pc + len₂, stack := v.toList ++ g.stack } := by
      refine e3.trans ?_
      rw [hf₂, State.calling_eq h.top, State.setFrames_setFrames, State.setTop_of_frames _ hr', hr]
      rfl
    have hsame : U.sameButNew ({ U with heap := s₂.heap, slotsUsed := s₂.slotsUsed } : State) L mc ms := by
      refine ⟨?_, q2, q3, q4, q5, q6⟩
      obtain ⟨t, ht, -⟩ := State.frames_cons hr
      show ({ U with heap := s₂.heap, slotsUsed := s₂.slotsUsed } : State) = { U.setFrames U.frames with heap := s₂.heap, slotsUsed := s₂.slotsUsed }
      rw [State.setFrames_self ht]
    subst hg
    refine Or.inl ⟨v, ⟨(({ U with heap := s₂.heap, slotsUsed := s₂.slotsUsed } : State).setVm s₂.vm), Ls ++ L, c0 + mc, s0 + ms⟩,
      ⟨X.admits, X.cas, X.clock, X.frames, X.room, X.hears, X.method, X.code, (X.here.setHeapUsed s₂.heap s₂.slotsUsed).setVm hW'.alike, X.tail, State.WarmedH.trans X.warmed hW', X.limits, X.bytes, X.same.trans (hsame.setVm s.vm)⟩,
      ⟨g, mk, s₂, L, rfl, rfl, hqc, rfl, hL, rfl, rfl⟩, ?_⟩
    show Steps p.tables e below _ ((({ U with heap := s₂.heap, slotsUsed := s₂.slotsUsed } : State).setVm s₂.vm).setTop { g with pc := g.pc + len₂, stack := v.toList ++ g.stack })
    rw [← hs₂]
    exact hsteps
  · obtain ⟨e2, q2, q3, q4, q5, q6⟩ := id hsm
    have e3 : s₂ = ({ (U.calling g mk a).setFrames s₂.frames with heap := s₂.heap, slotsUsed := s₂.slotsUsed } : State).setVm s₂.vm := by
      have : s₂ = ({ s₂ with vm := (U.calling g mk a).vm } : State).setVm s₂.vm := rfl
      rw [e2] at this
      exact this
    have hf₂ : s₂.frames = .throwing q :: .java g :: U.frames.tail := hend
    have hW' : U.WarmedH s₂.vm := hW₂
    have hs₂ : s₂ = ((({ U with heap := s₂.heap, slotsUsed := s₂.slotsUsed } : State).setVm s₂.vm).setTop g).pushFrame (.throwing q) := by
      refine e3.trans ?_
      rw [hf₂, State.calling_eq h.top, State.setFrames_setFrames, State.pushFrame, State.frames_setTop _ hr', State.setTop_of_frames _ hr', State.setFrames_setFrames, hr]
      rfl
    have hsame : U.sameButNew ({ U with heap := s₂.heap, slotsUsed := s₂.slotsUsed } : State) L mc ms := by
      refine ⟨?_, q2, q3, q4, q5, q6⟩
      obtain ⟨t, ht, -⟩ := State.frames_cons hr
      show ({ U with heap := s₂.heap, slotsUsed := s₂.slotsUsed } : State) = { U.setFrames U.frames with heap := s₂.heap, slotsUsed := s₂.slotsUsed }
      rw [State.setFrames_self ht]
    subst hg
    refine Or.inr ⟨q, ⟨(({ U with heap := s₂.heap, slotsUsed := s₂.slotsUsed } : State).setVm s₂.vm), Ls ++ L, c0 + mc, s0 + ms⟩,
      ⟨X.admits, X.cas, X.clock, X.frames, X.room, X.hears, X.method, X.code, (X.here.setHeapUsed s₂.heap s₂.slotsUsed).setVm hW'.alike, X.tail, State.WarmedH.trans X.warmed hW', X.limits, X.bytes, X.same.trans (hsame.setVm s.vm)⟩,
      ⟨g, mk, s₂, L, E, ce, rfl, rfl, hx, hce, hcv, hcl, rfl, hL, rfl, rfl⟩, ?_⟩
    show Steps p.tables e below _ (((({ U with heap := s₂.heap, slotsUsed := s₂.slotsUsed } : State).setVm s₂.vm).setTop g).pushFrame (.throwing q))
    rw [← hs₂]
    exact hsteps
end Payer
section Calls
variable {p : Program} {l : Launch} {e : Env} {R : Room} {s : State} {m : MethodId} {args : Array Value} {below : List Frame} {meth : Method} {c : Code} {T : State} {locs : List Loc} {cells slots : Nat}
theorem vx_callV (X : Stand p l e R s m args below meth c T locs cells slots) (hexec : p.tables.exec = Jvm.exec) {own C : String} {index : Nat} {y : MethodName} {bytes : ByteArray} {maxL : Nat} {ret : Option FieldType}
    (hown : s.vm.findClass own = some m.cls) (hlink : (Cond.methodLink own index y).before args s = true) (hinst : (Cond.instanceMethod y).before args s = true) (hsel : (Cond.selects C y y).before args s = true)
    (hcode : (Cond.code y bytes maxL ret).before args s = true) (hy : y.cls ≠ "java/lang/invoke/MethodHandle" ∧ y.cls ≠ "java/lang/invoke/VarHandle")
    {W9 : Nat} {Pre : Pt → Array Value → Prop} {Post : Pt → Array Value → Option Value → Pt → Prop} {PostX : Pt → Array Value → Addr → Pt → Prop} (hK : vx_Back l R p e below s args y 3 W9 Pre Post PostX)
    {b : Addr} {cellB : Cell} (hcell : T.heap[b]? = some cellB) (hobj : cellB.vm.isStatics = false) (hcls : s.vm.findClass C = some cellB.cls)
    {g : JFrame} (hg : g.method = m) (hsize : g.locals.size = c.maxLocals) {argsL rest : List Value} (hlen : ∀ sig, parseMethodDescriptor y.desc = some sig → argsL.length = sig.parameters.length)
    (hstack : g.stack = argsL.reverse ++ .ref b :: rest) (hW : 2 * g.monitorRoom + (rest.map fun v => v.category).sum ≤ W9) (hdg : decode c.code g.pc = .ok (.invokevirtual index, 3))
    (hpre : ∀ vm₁, s.WarmedH vm₁ → Pre ⟨T.setVm vm₁, locs, cells, slots⟩ (Value.ref b :: argsL).toArray) :
    (∃ (v : Option Value) (vm₁ : Vm) (B : Pt), s.WarmedH vm₁ ∧ Stand p l e R s m args below meth c B.U B.locs B.cells B.slots ∧ Post ⟨T.setVm vm₁, locs, cells, slots⟩ (Value.ref b :: argsL).toArray v B ∧
      ∀ target, Steps p.tables e below (B.U.setTop { g with pc := g.pc + 3, stack := v.toList ++ rest }) target → Steps p.tables e below (T.setTop g) target) ∨
    (∃ (q : Addr) (vm₁ : Vm) (B : Pt), s.WarmedH vm₁ ∧ Stand p l e R s m args below meth c B.U B.locs B.cells B.slots ∧ PostX ⟨T.setVm vm₁, locs, cells, slots⟩ (Value.ref b :: argsL).toArray q B ∧
      Steps p.tables e below (T.setTop g) ((B.U.setTop { g with stack := rest }).pushFrame (.throwing q))) := by
  obtain ⟨mk, methM, hnamed, hmethM, hstM, habM⟩ := Cond.instanceMethod_spec hinst
  obtain ⟨methM', cM, hmethM', -, -, -, -, -, -, hsigM⟩ := Cond.code_spec hnamed hcode
  cases hmethM.symm.trans hmethM'
  obtain ⟨c2, r2, m2, q1, q2, q3, q4, kP, hkP, hkPi⟩ := Cond.selects_spec hsel
  cases hcls.symm.trans q1
  cases (State.methodFound?_of_named hnamed hy).symm.trans q2
  cases hnamed.symm.trans q3
  have hselP : selectMethod e.platform s.vm cellB.cls mk = .method mk := by rw [Launch.admits_selectMethod X.admits]; exact q4
  obtain ⟨vm₁, X₁, hstep₁⟩ := X.invokevirtual hexec hown hlink hnamed hmethM hstM hkP hkPi hy (a := b) (cell := cellB) hcell
    (fun z h => by rw [h] at hobj; cases hobj) hselP hmethM habM hkP hkPi (g := g) hg (argsL := argsL) (rest := rest) (hlen _ hsigM) hstack hdg
  rcases hK m meth c ⟨T.setVm vm₁, locs, cells, slots⟩ { g with stack := rest } (.invokevirtual index) mk (Value.ref b :: argsL).toArray X₁ hg hsize hdg hW (X₁.named hnamed) (hpre vm₁ X₁.warmed) with ⟨v, B, X', hpost, hsteps⟩ | ⟨q, B, X', hpost, hsteps⟩
  · exact Or.inl ⟨v, vm₁, B, X₁.warmed, X', hpost, fun target h => hstep₁ _ fun acts => by rw [doInvoke_state]; exact hsteps.trans h⟩
  · exact Or.inr ⟨q, vm₁, B, X₁.warmed, X', hpost, hstep₁ _ fun acts => by rw [doInvoke_state]; exact hsteps⟩
theorem vx_callS (X : Stand p l e R s m args below meth c T locs cells slots) (hexec : p.tables.exec = Jvm.exec) {own : String} {index : Nat} {y : MethodName} {bytes : ByteArray} {maxL : Nat} {ret : Option FieldType}
    (hown : s.vm.findClass own = some m.cls) (hlink : (Cond.methodLink own index y).before args s = true) (hstat : (Cond.static y).before args s = true) (hinit : (Cond.initialized y.cls).before args s = true)
    (hcode : (Cond.code y bytes maxL ret).before args s = true) (hy : y.cls ≠ "java/lang/invoke/MethodHandle" ∧ y.cls ≠ "java/lang/invoke/VarHandle")
    {W9 : Nat} {Pre : Pt → Array Value → Prop} {Post : Pt → Array Value → Option Value → Pt → Prop} {PostX : Pt → Array Value → Addr → Pt → Prop} (hK : vx_Back l R p e below s args y 3 W9 Pre Post PostX)
    {g : JFrame} (hg : g.method = m) (hsize : g.locals.size = c.maxLocals) {argsL rest : List Value} (hlen : ∀ sig, parseMethodDescriptor y.desc = some sig → argsL.length = sig.parameters.length)
    (hstack : g.stack = argsL.reverse ++ rest) (hW : 2 * g.monitorRoom + (rest.map fun v => v.category).sum ≤ W9) (hdg : decode c.code g.pc = .ok (.invokestatic index, 3))
    (hpre : ∀ vm₁, s.WarmedH vm₁ → Pre ⟨T.setVm vm₁, locs, cells, slots⟩ argsL.toArray) :
    (∃ (v : Option Value) (vm₁ : Vm) (B : Pt), s.WarmedH vm₁ ∧ Stand p l e R s m args below meth c B.U B.locs B.cells B.slots ∧ Post ⟨T.setVm vm₁, locs, cells, slots⟩ argsL.toArray v B ∧
      ∀ target, Steps p.tables e below (B.U.setTop { g with pc := g.pc + 3, stack := v.toList ++ rest }) target → Steps p.tables e below (T.setTop g) target) ∨
    (∃ (q : Addr) (vm₁ : Vm) (B : Pt), s.WarmedH vm₁ ∧ Stand p l e R s m args below meth c B.U B.locs B.cells B.slots ∧ PostX ⟨T.setVm vm₁, locs, cells, slots⟩ argsL.toArray q B ∧
      Steps p.tables e below (T.setTop g) ((B.U.setTop { g with stack := rest }).pushFrame (.throwing q))) := by
  obtain ⟨mk, hnamed⟩ := Cond.code_named hcode
  obtain ⟨methM, cM, hmethM, -, -, -, -, -, -, hsigM⟩ := Cond.code_spec hnamed hcode
  have hstatic : methM.isStatic = true := Cond.static_spec hnamed hmethM hstat
  obtain ⟨kP, hkP, -⟩ := className_of_methodNamed hnamed
  have hinitP : kP.init = .initialized := Cond.initialized_spec (findClass_of_methodNamed hnamed) hkP hinit
  obtain ⟨vm₁, X₁, hstep₁⟩ := X.invokestatic hexec hown hlink hnamed hmethM hstatic hkP hinitP hy (g := g) hg (argsL := argsL) (rest := rest) (hlen _ hsigM) hstack hdg
  rcases hK m meth c ⟨T.setVm vm₁, locs, cells, slots⟩ { g with stack := rest } (.invokestatic index) mk argsL.toArray X₁ hg hsize hdg hW (X₁.named hnamed) (hpre vm₁ X₁.warmed) with ⟨v, B, X', hpost, hsteps⟩ | ⟨q, B, X', hpost, hsteps⟩
  · exact Or.inl ⟨v, vm₁, B, X₁.warmed, X', hpost, fun target h => hstep₁ _ fun acts => by rw [doInvoke_state]; exact hsteps.trans h⟩
  · exact Or.inr ⟨q, vm₁, B, X₁.warmed, X', hpost, hstep₁ _ fun acts => by rw [doInvoke_state]; exact hsteps⟩
end Calls
theorem vx_cls {s : State} {T : State} {vm₁ : Vm} {E : String} {k : ClassId} (hW : s.WarmedH vm₁) (h : (T.setVm vm₁).vm.findClass E = some k) : s.vm.findClass E = some k := by
  have h1 : vm₁.findClass E = some k := h
  rw [hW.alike.findClass] at h1
  exact h1
/-- the method's frame g, with q thrown over it -/
def vx_W (p : Program) (l : Launch) (e : Env) (R : Room) (s : State) (m : MethodId) (args : Array Value) (below : List Frame) (meth : Method) (c : Code) (H : Heap) (locs : List Loc) (cells slots : Nat) (Q : State → Prop) (g : JFrame) (q : Addr) : Prop :=
  ∀ T : State, T.heap = H → Stand p l e R s m args below meth c T locs cells slots → ∃ t, Steps p.tables e below ((T.setTop g).pushFrame (.throwing q)) t ∧ Q t
def vx_Run (p : Program) (l : Launch) (e : Env) (R : Room) (s : State) (m : MethodId) (args : Array Value) (below : List Frame) (meth : Method) (c : Code) (H : Heap) (locs : List Loc) (cells slots mc ms : Nat) (g : JFrame) (rest : List Value) (Qa : State → Outcome → State → Prop) (XC : String → State → State → Prop) (free : Addr → Prop) : Prop :=
  ∀ T : State, T.heap = H → Stand p l e R s m args below meth c T locs cells slots →
    (∃ (v : Option Value) (st₀ t T' : State) (L : List Loc), st₀.heap = H ∧ Stand p l e R s m args below meth c T' (locs ++ L) (cells + mc) (slots + ms) ∧ (∀ q ∈ L, free q.base) ∧ T'.heap = t.heap ∧ T'.vm = t.vm ∧ Qa st₀ (.returned v) t ∧
      Goes p e below T g T' { g with pc := g.pc + 3, stack := v.toList ++ rest }) ∨
    (∃ (q : Addr) (st₀ t T' : State) (L : List Loc) (E : String) (ce : Cell), st₀.heap = H ∧ Stand p l e R s m args below meth c T' (locs ++ L) (cells + mc) (slots + ms) ∧ (∀ z ∈ L, free z.base) ∧ T'.heap = t.heap ∧ T'.vm = t.vm ∧ XC E st₀ t ∧ t.heap[q]? = some ce ∧ ce.vm = .none ∧ s.vm.findClass E = some ce.cls ∧
      Steps p.tables e below (T.setTop g) ((T'.setTop { g with stack := rest }).pushFrame (.throwing q)))
def vx_X {S : Type} (px : S → Prop) (B : String → S → State → Prop) (A : Nat → Prop) : String → State → State → Prop := fun E st t => ∃ u : S, px u ∧ B E u t ∧ va_F A st t
section Runs
variable {p : Program} {l : Launch} {e : Env} {R : Room} {s : State} {m : MethodId} {args : Array Value} {below : List Frame} {meth : Method} {c : Code} {H : Heap} {locs : List Loc} {cells slots : Nat}
variable {y : MethodName} {bytes cc : ByteArray} {maxL nL mc ms n index : Nat} {ret : Option FieldType} {ws : List Cond} {rm : Room} {Pc : Array Value → State → Prop} {Qc : Array Value → State → Outcome → State → Prop} {XC : String → State → State → Prop} {free : Addr → Prop} {Ts : List Cond} {own C : String} {b : Addr} {As rest : List Value} {g : JFrame}
theorem vx_callBack (cb : CallB R s args own index y bytes maxL ret ws rm mc ms n) (hM : vx_Met l y ws rm Pc Qc XC mc ms free) (hbl : FrameBlind Pc) : vx_Back l R p e below s args y 3 8 (PreOf R mc ms Pc) (PostOf Qc mc ms free) (vx_Post XC mc ms free) := by
  obtain ⟨hrc, hrs, hfr, hlo, hws, hcw, -, hini, -⟩ := cb
  exact vx_back (bytes := bytes) (maxL := maxL) (ret := ret) hM hbl hrc hrs hfr hlo hws hcw (fun a' U hW => word_at hW (Or.inl (by first | rfl | simp [Cond.onTables, Cond.keeps, Cond.steady])) hini)
theorem vx_runV (S : CallFix p m c cc nL s args Ts own) (hM : vx_Met l y ws rm Pc Qc XC mc ms free) (cw : CallW R s args own C index y bytes maxL ret ws rm mc ms n) (hp : PreV s H C b Pc As)
    (hg : g.method = m) (hn : As.length = n) (hsize : g.locals.size = nL) (hstack : g.stack = As.reverse ++ .ref b :: rest) (hW : 2 * g.monitorRoom + (rest.map fun v => v.category).sum ≤ 8) (hdg : decode cc g.pc = .ok (.invokevirtual index, 3)) (hf : cells + mc ≤ R.cells ∧ slots + ms ≤ R.slots) :
    vx_Run p l e R s m args below meth c H locs cells slots mc ms g rest (Qc (Value.ref b :: As).toArray) XC free := by
  have hK : vx_Back l R p e below s args y 3 8 (PreOf R mc ms Pc) (PostOf Qc mc ms free) (vx_Post XC mc ms free) := vx_callBack cw.1 hM hp.1
  obtain ⟨⟨-, -, -, -, -, -, hcode, -, hy, hlen, hl⟩, hin, hse⟩ := cw
  obtain ⟨hx, hb, hml, ho, -⟩ := S
  obtain ⟨-, ⟨cellB, hcB, hoB, hclB⟩, hPc⟩ := hp
  intro T hT X
  rcases vx_callV X hx (C := C) (bytes := bytes) (maxL := maxL) (ret := ret) ho hl hin hse hcode hy hK (by rw [hT]; exact hcB) hoB hclB hg (hsize.trans hml.symm) (argsL := As) (rest := rest) (fun sig h => hn.trans (hlen sig h)) hstack hW (by rw [hb]; exact hdg)
    (fun vm₁ hW₁ => ⟨hf.1, hf.2, hPc (T.setVm vm₁) hT hW₁⟩) with ⟨v, vm₁, ⟨U', l2, c2, s2⟩, hW₁, X', ⟨g', mk, t, L, e1, e2, hq, h1, hL, h2, h3⟩, st⟩ | ⟨q, vm₁, ⟨U', l2, c2, s2⟩, hW₁, X', ⟨g', mk, t, L, E, ce, e1, e2, hq, hce, hcv, hcl, h1, hL, h2, h3⟩, st⟩
  · dsimp only [Pt.U, Pt.locs, Pt.cells, Pt.slots] at X' e1 e2 h1 h2 h3 st
    subst h1; subst h2; subst h3
    exact Or.inl ⟨v, (T.setVm vm₁).calling g' mk (Value.ref b :: As).toArray, t, U', L, hT, X', hL, e1, e2, hq, st⟩
  · dsimp only [Pt.U, Pt.locs, Pt.cells, Pt.slots] at X' e1 e2 h1 h2 h3 st hcl
    subst h1; subst h2; subst h3
    exact Or.inr ⟨q, (T.setVm vm₁).calling g' mk (Value.ref b :: As).toArray, t, U', L, E, ce, hT, X', hL, e1, e2, hq, hce, hcv, vx_cls hW₁ hcl, st⟩
theorem vx_runS (S : CallFix p m c cc nL s args Ts own) (hM : vx_Met l y ws rm Pc Qc XC mc ms free) (cw : CallB R s args own index y bytes maxL ret ws rm mc ms n ∧ (Cond.static y).before args s = true) (hp : PreS s H Pc As)
    (hg : g.method = m) (hn : As.length = n) (hsize : g.locals.size = nL) (hstack : g.stack = As.reverse ++ rest) (hW : 2 * g.monitorRoom + (rest.map fun v => v.category).sum ≤ 8) (hdg : decode cc g.pc = .ok (.invokestatic index, 3)) (hf : cells + mc ≤ R.cells ∧ slots + ms ≤ R.slots) :
    vx_Run p l e R s m args below meth c H locs cells slots mc ms g rest (Qc As.toArray) XC free := by
  have hK : vx_Back l R p e below s args y 3 8 (PreOf R mc ms Pc) (PostOf Qc mc ms free) (vx_Post XC mc ms free) := vx_callBack cw.1 hM hp.1
  obtain ⟨⟨-, -, -, -, -, -, hcode, hini, hy, hlen, hl⟩, hstt⟩ := cw
  obtain ⟨hx, hb, hml, ho, -⟩ := S
  intro T hT X
  rcases vx_callS X hx (bytes := bytes) (maxL := maxL) (ret := ret) ho hl hstt hini hcode hy hK hg (hsize.trans hml.symm) (argsL := As) (rest := rest) (fun sig h => hn.trans (hlen sig h)) hstack hW (by rw [hb]; exact hdg)
    (fun vm₁ hW₁ => ⟨hf.1, hf.2, hp.2 (T.setVm vm₁) hT hW₁⟩) with ⟨v, vm₁, ⟨U', l2, c2, s2⟩, hW₁, X', ⟨g', mk, t, L, e1, e2, hq, h1, hL, h2, h3⟩, st⟩ | ⟨q, vm₁, ⟨U', l2, c2, s2⟩, hW₁, X', ⟨g', mk, t, L, E, ce, e1, e2, hq, hce, hcv, hcl, h1, hL, h2, h3⟩, st⟩
  · dsimp only [Pt.U, Pt.locs, Pt.cells, Pt.slots] at X' e1 e2 h1 h2 h3 st
    subst h1; subst h2; subst h3
    exact Or.inl ⟨v, (T.setVm vm₁).calling g' mk As.toArray, t, U', L, hT, X', hL, e1, e2, hq, st⟩
  · dsimp only [Pt.U, Pt.locs, Pt.cells, Pt.slots] at X' e1 e2 h1 h2 h3 st hcl
    subst h1; subst h2; subst h3
    exact Or.inr ⟨q, (T.setVm vm₁).calling g' mk As.toArray, t, U', L, E, ce, hT, X', hL, e1, e2, hq, hce, hcv, vx_cls hW₁ hcl, st⟩
end Runs
section Rows
variable {p : Program} {l : Launch} {e : Env} {R : Room} {s : State} {m : MethodId} {args : Array Value} {below : List Frame} {meth : Method} {c : Code} {H : Heap} {locs : List Loc} {cells slots : Nat} {Q : State → Prop}
variable {mc ms : Nat} {free : Addr → Prop} {A0 A1 : Nat → Prop} {H0 : Heap} {a : Array Value} {pc : Nat} {ls : Array Slot} {st0 rest : List Value}
theorem vx_keep {st₀ t T' : State} {L : List Loc} (h0 : st₀.heap = H) (e1 : T'.heap = t.heap) (hS : va_S A0 H0 H locs) (hA : ∀ q, q < H.size → A1 q → A0 q) (hf : ∀ q, free q → A0 q) (hL : ∀ q ∈ L, free q.base) (hF : va_F A1 st₀ t) :
    H.size ≤ T'.heap.size ∧ (∀ q : Nat, q < H.size → ¬ A1 q → T'.heap[q]? = H[q]?) ∧ va_S A0 H0 T'.heap (locs ++ L) := by
  obtain ⟨hz, hk⟩ := hF
  rw [h0] at hz hk
  exact ⟨by rw [e1]; exact hz, fun q h1 h2 => by rw [e1]; exact hk q h1 h2,
    ⟨Nat.le_trans hS.1 (by rw [e1]; exact hz), fun q h1 h2 => by rw [e1, hk q (Nat.lt_of_lt_of_le h1 hS.1) (fun z => h2 (hA q (Nat.lt_of_lt_of_le h1 hS.1) z))]; exact hS.2.1 q h1 h2, fun q hq => by
      rcases List.mem_append.mp hq with h | h
      · exact hS.2.2 q h
      · exact hf _ (hL q h)⟩⟩
theorem vx_calli {S SX : Type} {post : Int32 → S → Prop} {px : SX → Prop} {B : S → State → Prop} {BX : String → SX → State → Prop} {AX : Nat → Prop} (hr : vx_Run p l e R s m args below meth c H locs cells slots mc ms (F0 m pc ls st0) rest (va_Qi post B A1 a) (vx_X px BX AX) free) (hS : va_S A0 H0 H locs) (hA : ∀ q, q < H.size → A1 q → A0 q) (hf : ∀ q, free q → A0 q) (hAX : ∀ q, q < H.size → AX q → A0 q)
    (kx : ∀ (E : String) (ce : Cell) (q9 : Addr) (u : SX) (t : State) (H1 : Heap) (locs1 : List Loc), t.heap = H1 → s.vm.Alike t.vm → px u → BX E u t → H.size ≤ H1.size → (∀ q : Nat, q < H.size → ¬ AX q → H1[q]? = H[q]?) → va_S A0 H0 H1 locs1 → H1[q9]? = some ce → ce.vm = .none → s.vm.findClass E = some ce.cls → vx_W p l e R s m args below meth c H1 locs1 (cells + mc) (slots + ms) Q (F0 m pc ls rest) q9)
    (kk : ∀ (r : Int32) (u : S) (t : State) (H1 : Heap) (locs1 : List Loc), t.heap = H1 → s.vm.Alike t.vm → post r u → B u t → H.size ≤ H1.size → (∀ q : Nat, q < H.size → ¬ A1 q → H1[q]? = H[q]?) → va_S A0 H0 H1 locs1 → W p l e R s m args below meth c H1 locs1 (cells + mc) (slots + ms) Q (F0 m (pc + 3) ls (.int r :: rest))) : W p l e R s m args below meth c H locs cells slots Q (F0 m pc ls st0) := by
  intro T hT X
  rcases hr T hT X with ⟨v, st₀, t, T', L, h0, X', hL, e1, e2, ⟨⟨r, u, hv, hp, hb⟩, hF⟩, st⟩ | ⟨q, st₀, t, T', L, E, ce, h0, X', hL, e1, e2, ⟨u, hp, hb, hF⟩, hce, hcv, hcl, st⟩
  · cases hv
    obtain ⟨k1, k2, k3⟩ := vx_keep h0 e1 hS hA hf hL hF
    obtain ⟨t2, a1, b1⟩ := kk r u t T'.heap (locs ++ L) e1.symm (by rw [← e2]; exact X'.warmed.alike) hp hb k1 k2 k3 T' rfl X'
    exact ⟨t2, st t2 a1, b1⟩
  · obtain ⟨k1, k2, k3⟩ := vx_keep h0 e1 hS hAX hf hL hF
    obtain ⟨t2, a1, b1⟩ := kx E ce q u t T'.heap (locs ++ L) e1.symm (by rw [← e2]; exact X'.warmed.alike) hp hb k1 k2 k3 (by rw [e1]; exact hce) hcv hcl T' rfl X'
    exact ⟨t2, st.trans a1, b1⟩
theorem vx_calll {S SX : Type} {post : Int64 → S → Prop} {px : SX → Prop} {B : S → State → Prop} {BX : String → SX → State → Prop} {AX : Nat → Prop} (hr : vx_Run p l e R s m args below meth c H locs cells slots mc ms (F0 m pc ls st0) rest (va_Ql post B A1 a) (vx_X px BX AX) free) (hS : va_S A0 H0 H locs) (hA : ∀ q, q < H.size → A1 q → A0 q) (hf : ∀ q, free q → A0 q) (hAX : ∀ q, q < H.size → AX q → A0 q)
    (kx : ∀ (E : String) (ce : Cell) (q9 : Addr) (u : SX) (t : State) (H1 : Heap) (locs1 : List Loc), t.heap = H1 → s.vm.Alike t.vm → px u → BX E u t → H.size ≤ H1.size → (∀ q : Nat, q < H.size → ¬ AX q → H1[q]? = H[q]?) → va_S A0 H0 H1 locs1 → H1[q9]? = some ce → ce.vm = .none → s.vm.findClass E = some ce.cls → vx_W p l e R s m args below meth c H1 locs1 (cells + mc) (slots + ms) Q (F0 m pc ls rest) q9)
    (kk : ∀ (r : Int64) (u : S) (t : State) (H1 : Heap) (locs1 : List Loc), t.heap = H1 → s.vm.Alike t.vm → post r u → B u t → H.size ≤ H1.size → (∀ q : Nat, q < H.size → ¬ A1 q → H1[q]? = H[q]?) → va_S A0 H0 H1 locs1 → W p l e R s m args below meth c H1 locs1 (cells + mc) (slots + ms) Q (F0 m (pc + 3) ls (.long r :: rest))) : W p l e R s m args below meth c H locs cells slots Q (F0 m pc ls st0) := by
  intro T hT X
  rcases hr T hT X with ⟨v, st₀, t, T', L, h0, X', hL, e1, e2, ⟨⟨r, u, hv, hp, hb⟩, hF⟩, st⟩ | ⟨q, st₀, t, T', L, E, ce, h0, X', hL, e1, e2, ⟨u, hp, hb, hF⟩, hce, hcv, hcl, st⟩
  · cases hv
    obtain ⟨k1, k2, k3⟩ := vx_keep h0 e1 hS hA hf hL hF
    obtain ⟨t2, a1, b1⟩ := kk r u t T'.heap (locs ++ L) e1.symm (by rw [← e2]; exact X'.warmed.alike) hp hb k1 k2 k3 T' rfl X'
    exact ⟨t2, st t2 a1, b1⟩
  · obtain ⟨k1, k2, k3⟩ := vx_keep h0 e1 hS hAX hf hL hF
    obtain ⟨t2, a1, b1⟩ := kx E ce q u t T'.heap (locs ++ L) e1.symm (by rw [← e2]; exact X'.warmed.alike) hp hb k1 k2 k3 (by rw [e1]; exact hce) hcv hcl T' rfl X'
    exact ⟨t2, st.trans a1, b1⟩
theorem vx_callf {S SX : Type} {post : UInt32 → S → Prop} {px : SX → Prop} {B : S → State → Prop} {BX : String → SX → State → Prop} {AX : Nat → Prop} (hr : vx_Run p l e R s m args below meth c H locs cells slots mc ms (F0 m pc ls st0) rest (va_Qf post B A1 a) (vx_X px BX AX) free) (hS : va_S A0 H0 H locs) (hA : ∀ q, q < H.size → A1 q → A0 q) (hf : ∀ q, free q → A0 q) (hAX : ∀ q, q < H.size → AX q → A0 q)
    (kx : ∀ (E : String) (ce : Cell) (q9 : Addr) (u : SX) (t : State) (H1 : Heap) (locs1 : List Loc), t.heap = H1 → s.vm.Alike t.vm → px u → BX E u t → H.size ≤ H1.size → (∀ q : Nat, q < H.size → ¬ AX q → H1[q]? = H[q]?) → va_S A0 H0 H1 locs1 → H1[q9]? = some ce → ce.vm = .none → s.vm.findClass E = some ce.cls → vx_W p l e R s m args below meth c H1 locs1 (cells + mc) (slots + ms) Q (F0 m pc ls rest) q9)
    (kk : ∀ (r : UInt32) (u : S) (t : State) (H1 : Heap) (locs1 : List Loc), t.heap = H1 → s.vm.Alike t.vm → post r u → B u t → H.size ≤ H1.size → (∀ q : Nat, q < H.size → ¬ A1 q → H1[q]? = H[q]?) → va_S A0 H0 H1 locs1 → W p l e R s m args below meth c H1 locs1 (cells + mc) (slots + ms) Q (F0 m (pc + 3) ls (.float r :: rest))) : W p l e R s m args below meth c H locs cells slots Q (F0 m pc ls st0) := by
  intro T hT X
  rcases hr T hT X with ⟨v, st₀, t, T', L, h0, X', hL, e1, e2, ⟨⟨r, u, hv, hp, hb⟩, hF⟩, st⟩ | ⟨q, st₀, t, T', L, E, ce, h0, X', hL, e1, e2, ⟨u, hp, hb, hF⟩, hce, hcv, hcl, st⟩
  · cases hv
    obtain ⟨k1, k2, k3⟩ := vx_keep h0 e1 hS hA hf hL hF
    obtain ⟨t2, a1, b1⟩ := kk r u t T'.heap (locs ++ L) e1.symm (by rw [← e2]; exact X'.warmed.alike) hp hb k1 k2 k3 T' rfl X'
    exact ⟨t2, st t2 a1, b1⟩
  · obtain ⟨k1, k2, k3⟩ := vx_keep h0 e1 hS hAX hf hL hF
    obtain ⟨t2, a1, b1⟩ := kx E ce q u t T'.heap (locs ++ L) e1.symm (by rw [← e2]; exact X'.warmed.alike) hp hb k1 k2 k3 (by rw [e1]; exact hce) hcv hcl T' rfl X'
    exact ⟨t2, st.trans a1, b1⟩
theorem vx_calld {S SX : Type} {post : UInt64 → S → Prop} {px : SX → Prop} {B : S → State → Prop} {BX : String → SX → State → Prop} {AX : Nat → Prop} (hr : vx_Run p l e R s m args below meth c H locs cells slots mc ms (F0 m pc ls st0) rest (va_Qd post B A1 a) (vx_X px BX AX) free) (hS : va_S A0 H0 H locs) (hA : ∀ q, q < H.size → A1 q → A0 q) (hf : ∀ q, free q → A0 q) (hAX : ∀ q, q < H.size → AX q → A0 q)
    (kx : ∀ (E : String) (ce : Cell) (q9 : Addr) (u : SX) (t : State) (H1 : Heap) (locs1 : List Loc), t.heap = H1 → s.vm.Alike t.vm → px u → BX E u t → H.size ≤ H1.size → (∀ q : Nat, q < H.size → ¬ AX q → H1[q]? = H[q]?) → va_S A0 H0 H1 locs1 → H1[q9]? = some ce → ce.vm = .none → s.vm.findClass E = some ce.cls → vx_W p l e R s m args below meth c H1 locs1 (cells + mc) (slots + ms) Q (F0 m pc ls rest) q9)
    (kk : ∀ (r : UInt64) (u : S) (t : State) (H1 : Heap) (locs1 : List Loc), t.heap = H1 → s.vm.Alike t.vm → post r u → B u t → H.size ≤ H1.size → (∀ q : Nat, q < H.size → ¬ A1 q → H1[q]? = H[q]?) → va_S A0 H0 H1 locs1 → W p l e R s m args below meth c H1 locs1 (cells + mc) (slots + ms) Q (F0 m (pc + 3) ls (.double r :: rest))) : W p l e R s m args below meth c H locs cells slots Q (F0 m pc ls st0) := by
  intro T hT X
  rcases hr T hT X with ⟨v, st₀, t, T', L, h0, X', hL, e1, e2, ⟨⟨r, u, hv, hp, hb⟩, hF⟩, st⟩ | ⟨q, st₀, t, T', L, E, ce, h0, X', hL, e1, e2, ⟨u, hp, hb, hF⟩, hce, hcv, hcl, st⟩
  · cases hv
    obtain ⟨k1, k2, k3⟩ := vx_keep h0 e1 hS hA hf hL hF
    obtain ⟨t2, a1, b1⟩ := kk r u t T'.heap (locs ++ L) e1.symm (by rw [← e2]; exact X'.warmed.alike) hp hb k1 k2 k3 T' rfl X'
    exact ⟨t2, st t2 a1, b1⟩
  · obtain ⟨k1, k2, k3⟩ := vx_keep h0 e1 hS hAX hf hL hF
    obtain ⟨t2, a1, b1⟩ := kx E ce q u t T'.heap (locs ++ L) e1.symm (by rw [← e2]; exact X'.warmed.alike) hp hb k1 k2 k3 (by rw [e1]; exact hce) hcv hcl T' rfl X'
    exact ⟨t2, st.trans a1, b1⟩
theorem vx_callv {S SX : Type} {post : S → Prop} {px : SX → Prop} {B : S → State → Prop} {BX : String → SX → State → Prop} {AX : Nat → Prop} (hr : vx_Run p l e R s m args below meth c H locs cells slots mc ms (F0 m pc ls st0) rest (va_Qv post B A1 a) (vx_X px BX AX) free) (hS : va_S A0 H0 H locs) (hA : ∀ q, q < H.size → A1 q → A0 q) (hf : ∀ q, free q → A0 q) (hAX : ∀ q, q < H.size → AX q → A0 q)
    (kx : ∀ (E : String) (ce : Cell) (q9 : Addr) (u : SX) (t : State) (H1 : Heap) (locs1 : List Loc), t.heap = H1 → s.vm.Alike t.vm → px u → BX E u t → H.size ≤ H1.size → (∀ q : Nat, q < H.size → ¬ AX q → H1[q]? = H[q]?) → va_S A0 H0 H1 locs1 → H1[q9]? = some ce → ce.vm = .none → s.vm.findClass E = some ce.cls → vx_W p l e R s m args below meth c H1 locs1 (cells + mc) (slots + ms) Q (F0 m pc ls rest) q9)
    (kk : ∀ (u : S) (t : State) (H1 : Heap) (locs1 : List Loc), t.heap = H1 → s.vm.Alike t.vm → post u → B u t → H.size ≤ H1.size → (∀ q : Nat, q < H.size → ¬ A1 q → H1[q]? = H[q]?) → va_S A0 H0 H1 locs1 → W p l e R s m args below meth c H1 locs1 (cells + mc) (slots + ms) Q (F0 m (pc + 3) ls (rest))) : W p l e R s m args below meth c H locs cells slots Q (F0 m pc ls st0) := by
  intro T hT X
  rcases hr T hT X with ⟨v, st₀, t, T', L, h0, X', hL, e1, e2, ⟨⟨u, hv, hp, hb⟩, hF⟩, st⟩ | ⟨q, st₀, t, T', L, E, ce, h0, X', hL, e1, e2, ⟨u, hp, hb, hF⟩, hce, hcv, hcl, st⟩
  · cases hv
    obtain ⟨k1, k2, k3⟩ := vx_keep h0 e1 hS hA hf hL hF
    obtain ⟨t2, a1, b1⟩ := kk u t T'.heap (locs ++ L) e1.symm (by rw [← e2]; exact X'.warmed.alike) hp hb k1 k2 k3 T' rfl X'
    exact ⟨t2, st t2 a1, b1⟩
  · obtain ⟨k1, k2, k3⟩ := vx_keep h0 e1 hS hAX hf hL hF
    obtain ⟨t2, a1, b1⟩ := kx E ce q u t T'.heap (locs ++ L) e1.symm (by rw [← e2]; exact X'.warmed.alike) hp hb k1 k2 k3 (by rw [e1]; exact hce) hcv hcl T' rfl X'
    exact ⟨t2, st.trans a1, b1⟩
end Rows
section Ends
variable {p : Program} {l : Launch} {e : Env} {R : Room} {s : State} {m : MethodId} {args : Array Value} {below : List Frame} {meth : Method} {c : Code} {H : Heap} {locs : List Loc} {cells slots : Nat} {Q : State → Prop}
variable {mc ms : Nat} {free : Addr → Prop} {A0 A1 : Nat → Prop} {H0 : Heap} {a : Array Value} {ls : Array Slot} {st0 rest : List Value}
variable {Qc : Array Value → State → Outcome → State → Prop} {XC : String → State → State → Prop}
/-- what a body that may throw owes at its end -/
def vx_MQ (below : List Frame) (Qc : Array Value → State → Outcome → State → Prop) (XC : String → State → State → Prop) (a : Array Value) (s : State) (mc ms : Nat) (free : Addr → Prop) : State → Prop := fun t =>
  ∃ o, t.status = .running ∧ Ended t below o ∧ vx_Q Qc XC mc ms free a s o t
theorem vx_ret {g : JFrame} {mc ms : Nat} (k : W p l e R s m args below meth c H locs cells slots (MQ below Qc args s mc ms free) g) : W p l e R s m args below meth c H locs cells slots (vx_MQ below Qc XC args s mc ms free) g := by
  intro T hT X
  obtain ⟨t, a1, o, b1, b2, b3, b4⟩ := k T hT X
  exact ⟨t, a1, o, b1, b2, Or.inl ⟨b3, b4⟩⟩
/-- not caught here: it goes on to the caller -/
theorem vx_widen {g : JFrame} {q : Addr} {k n : Nat} (h1 : cells ≤ k) (h2 : slots ≤ n) (kk : vx_W p l e R s m args below meth c H locs k n Q g q) : vx_W p l e R s m args below meth c H locs cells slots Q g q := fun T hT X => kk T hT (stand_widen X h1 h2)
theorem vx_out {pc : Nat} {E : String} {ce : Cell} {q : Addr} {mc ms : Nat} (hout : ∀ x ∈ c.exceptionTable.toList, covers x pc = false) (hlocks : meth.locks = false) (hcell : H[q]? = some ce) (hv : ce.vm = .none) (hcl : s.vm.findClass E = some ce.cls)
    (hx : ∀ t : State, t.heap = H → s.vm.Alike t.vm → XC E s t) (hf : ∀ z ∈ locs, free z.base) (hc : cells ≤ mc) (hs : slots ≤ ms) :
    vx_W p l e R s m args below meth c H locs cells slots (vx_MQ below Qc XC args s mc ms free) (F0 m pc ls rest) q := by
  intro T hT X
  obtain ⟨st1, hrun, hend, hW, hsm⟩ := X.leaveThrown q (g := F0 m pc ls rest) rfl rfl rfl hout hlocks
  have hcell9 : (T.setFrames (.throwing q :: below)).heap[q]? = some ce := by
    show T.heap[q]? = some ce
    rw [hT]; exact hcell
  exact ⟨_, st1, .threw q, hrun, hend, Or.inr ⟨q, rfl, E, ce, locs, hx _ hT hW.alike, hcell9, hv, hcl, hW, hsm.mono hc hs, hf⟩⟩
theorem vx_frame {U : State} {k n : Nat} (h : s.sameButNew ({ U with vm := s.vm } : State) locs k n) : s.heap.size ≤ U.heap.size ∧ ∀ q : Nat, q < s.heap.size → (∀ z ∈ locs, z.base ≠ q) → U.heap[q]? = s.heap[q]? := by
  obtain ⟨-, h2, -, -, -, h6⟩ := h
  refine ⟨h2, fun q hq hz => ?_⟩
  obtain ⟨c9, e1, e2, e3, e4⟩ := h6 q _ (Array.getElem?_eq_getElem hq)
  have hs : c9.slots = (s.heap[q]).slots := Array.ext_getElem? fun i => e4 i fun hm => hz _ hm rfl
  have h9 : c9 = s.heap[q] := by
    rw [hs] at e2
    exact e2
  have e5 : U.heap[q]? = some c9 := e1
  rw [e5, h9, Array.getElem?_eq_getElem hq]
/-- the words of a throw but the four that speak of the heap -/
def vx_no (w : Cond) : Bool := decide (w ≠ .isRef (.static Bundle.tN "UNASSIGNED_STACK" Bundle.steD)) && decide (w ≠ .isRef (.static Bundle.tN "SUPPRESSED_SENTINEL" Bundle.listD)) && decide (w ≠ .laysStatic Bundle.tN "UNASSIGNED_STACK" Bundle.steD) && decide (w ≠ .laysStatic Bundle.tN "SUPPRESSED_SENTINEL" Bundle.listD)
def vx_at0 (own : String) (ic : Nat) (X : String) (names : List String) : List Cond := (Bundle.ownAtoms0 own ic X names).filter vx_no
def vx_atS (own : String) (ic : Nat) (X : String) (names : List String) : List Cond := (Bundle.ownAtoms own ic X names).filter vx_no
/-- a word that the tables alone decide, or a good one -/
def vx_ot (w : Cond) : Bool := w.onTables || goodWord w
theorem vx_ot_at {args a' : Array Value} {s U : State} {w : Cond} (hW : s.WarmedH U.vm) (hvm : s.vm = U.vm) (hg : vx_ot w = true) (h : w.before args s = true) : w.before a' U = true := by
  simp only [vx_ot, Bool.or_eq_true] at hg
  rcases hg with hg | hg
  · exact va_tabs hg hvm h
  · exact word_at hW (good_of_word hg) h
/-- a list's words: the good ones out of the method's own list, the others by premises of their own -/
theorem vx_hat {args : Array Value} {s : State} {L B : List Cond} (h1 : ∀ w ∈ L.filter goodWord, w.before args s = true) (h2 : ∀ w ∈ L.filter (fun w => !goodWord w), w ∈ B) (h3 : ∀ w ∈ B, w.before args s = true) : ∀ w ∈ L, w.before args s = true := by
  intro w hw
  by_cases g : goodWord w = true
  · exact h1 w (List.mem_filter.mpr ⟨hw, g⟩)
  · refine h3 w (h2 w (List.mem_filter.mpr ⟨hw, ?_⟩))
    show (!goodWord w) = true
    cases hgw : goodWord w
    · rfl
    · exact absurd hgw g
theorem vx_c {args : Array Value} {s : State} {w : Cond} {B : List Cond} (h : w.before args s = true) (t : ∀ w ∈ B, w.before args s = true) : ∀ w' ∈ w :: B, w'.before args s = true := fun w' h' => (List.mem_cons.mp h').elim (fun e => by rw [e]; exact h) (t w')
theorem vx_n {args : Array Value} {s : State} : ∀ w ∈ ([] : List Cond), w.before args s = true := fun _ h => nomatch h
theorem vx_own {args : Array Value} {s : State} {L : List Cond} (h1 : ∀ w ∈ L.filter vx_no, w.before args s = true)
    (hU : (Cond.isRef (.static Bundle.tN "UNASSIGNED_STACK" Bundle.steD)).before args s = true) (hN : (Cond.isRef (.static Bundle.tN "SUPPRESSED_SENTINEL" Bundle.listD)).before args s = true)
    (lU : (Cond.laysStatic Bundle.tN "UNASSIGNED_STACK" Bundle.steD).before args s = true) (lN : (Cond.laysStatic Bundle.tN "SUPPRESSED_SENTINEL" Bundle.listD).before args s = true) : ∀ w ∈ L, w.before args s = true := by
  intro w hw
  by_cases e1 : w = .isRef (.static Bundle.tN "UNASSIGNED_STACK" Bundle.steD)
  · rw [e1]; exact hU
  · by_cases e2 : w = .isRef (.static Bundle.tN "SUPPRESSED_SENTINEL" Bundle.listD)
    · rw [e2]; exact hN
    · by_cases e3 : w = .laysStatic Bundle.tN "UNASSIGNED_STACK" Bundle.steD
      · rw [e3]; exact lU
      · by_cases e4 : w = .laysStatic Bundle.tN "SUPPRESSED_SENTINEL" Bundle.listD
        · rw [e4]; exact lN
        · exact h1 w (List.mem_filter.mpr ⟨hw, by unfold vx_no; rw [decide_eq_true e1, decide_eq_true e2, decide_eq_true e3, decide_eq_true e4]; rfl⟩)
/-- where a static field lies, its class's statics cell in H -/
def vx_L (C n d : String) (A : Nat → Prop) (U : State) (H : Heap) : Prop := ∃ (c : ClassId) (k : Class) (i : Nat) (f : Field) (a : Nat) (cell : Cell), U.vm.findClass C = some c ∧ U.fieldFound? C n d = some (c, k, i, f) ∧ f.isStatic = true ∧ k.statics = some a ∧ H[a]? = some cell ∧ cell.vm.isStatics = true ∧ cell.cls = c ∧ f.slot < cell.slots.size ∧ k.staticTypes[f.slot]? = some f.type ∧ ¬ A a
theorem vx_L.moved {C n d : String} {A : Nat → Prop} {u U : State} {H : Heap} (hvm : u.vm.Alike U.vm) (h : vx_L C n d A u H) : vx_L C n d A U H := by
  obtain ⟨c, k, i, f, a, cell, h1, h2, h3, h4, h5, h6, h7, h8, h9, h10⟩ := h
  obtain ⟨k', hi', he⟩ := State.fieldFound?_setVm hvm h2
  exact ⟨c, k', i, f, a, cell, by rw [hvm.findClass]; exact h1, hi', h3, by rw [he]; exact h4, h5, h6, h7, h8, by rw [he]; exact h9, h10⟩
theorem vx_L.kept {C n d : String} {A : Nat → Prop} {U : State} {H H1 : Heap} (h : vx_L C n d A U H) (hq : ∀ a : Nat, a < H.size → ¬ A a → H1[a]? = H[a]?) : vx_L C n d A U H1 := by
  obtain ⟨c, k, i, f, a, cell, h1, h2, h3, h4, h5, h6, h7, h8, h9, h10⟩ := h
  exact ⟨c, k, i, f, a, cell, h1, h2, h3, h4, by rw [hq a (Array.getElem?_eq_some_iff.mp h5).1 h10]; exact h5, h6, h7, h8, h9, h10⟩
theorem vx_L.narrow {C n d : String} {A B : Nat → Prop} {U : State} {H : Heap} (h : vx_L C n d A U H) (hAB : ∀ q, B q → A q) : vx_L C n d B U H := by
  obtain ⟨c, k, i, f, a, cell, h1, h2, h3, h4, h5, h6, h7, h8, h9, h10⟩ := h
  exact ⟨c, k, i, f, a, cell, h1, h2, h3, h4, h5, h6, h7, h8, h9, fun z => h10 (hAB _ z)⟩
theorem vx_L.word {C n d : String} {A : Nat → Prop} {s : State} {args : Array Value} (h : vx_L C n d A s s.heap) : (Cond.laysStatic C n d).before args s = true := by
  obtain ⟨c, k, i, f, a, cell, h1, h2, h3, h4, h5, h6, h7, h8, h9, -⟩ := h
  show (Cond.laysStatic C n d).holds args s none s [] = true
  exact Cond.laysStatic_of h1 h2 h3 h4 h5 h6 h7 h8 h9
/-- .. and what it holds: null or some reference -/
def vx_Zq (C n d : String) (A : Nat → Prop) (U : State) (H : Heap) : Prop := va_Zq C n d A U H ∧ vx_L C n d A U H
theorem vx_Zq.moved {C n d : String} {A : Nat → Prop} {u U : State} {H : Heap} (hvm : u.vm.Alike U.vm) (h : vx_Zq C n d A u H) : vx_Zq C n d A U H := ⟨va_Zq.moved hvm h.1, vx_L.moved hvm h.2⟩
theorem vx_Zq.kept {C n d : String} {A : Nat → Prop} {U : State} {H H1 : Heap} (h : vx_Zq C n d A U H) (hq : ∀ a : Nat, a < H.size → ¬ A a → H1[a]? = H[a]?) : vx_Zq C n d A U H1 := ⟨va_Zq.kept h.1 hq, vx_L.kept h.2 hq⟩
theorem vx_Zq.narrow {C n d : String} {A B : Nat → Prop} {U : State} {H : Heap} (h : vx_Zq C n d A U H) (hAB : ∀ q, B q → A q) : vx_Zq C n d B U H := ⟨va_Zq.narrow h.1 hAB, vx_L.narrow h.2 hAB⟩
theorem vx_Zqof {args : Array Value} {s : State} {C n d : String} {A : Nat → Prop} (hl : (Cond.laysStatic C n d).before args s = true) (hini : (Cond.initialized C).before args s = true) (h : (Cond.isRef (.static C n d)).before args s = true) (hA : ∀ a : Nat, a < s.heap.size → ¬ A a) : vx_Zq C n d A s s.heap := by
  refine ⟨va_Zqof hl hini h hA, ?_⟩
  obtain ⟨c, k, i, f, a, cell, h1, h2, h3, h4, h5, h6, h7, h8, h9⟩ := Cond.laysStatic_spec hl
  exact ⟨c, k, i, f, a, cell, h1, h2, h3, h4, h5, h6, h7, h8, h9, hA a (Array.getElem?_eq_some_iff.mp h5).1⟩
theorem vx_isRef {C n d : String} {v : Value} {A : Nat → Prop} {s : State} {args : Array Value} (h : va_Z C n d v A s s.heap) (hv : v.isRef = true) : (Cond.isRef (.static C n d)).before args s = true := by
  obtain ⟨cf, kf, fi, f, a, cell, h1, h2, h3, h4, h5, h6, h7, -⟩ := h
  have he : (Term.static C n d).eval args s none [] s = some v := by
    simp [Term.eval, State.fieldNamed?, h1, h2, h4, h5, h6, h7]
  simp only [Cond.before, Cond.holds, Cond.value, he]
  cases v <;> simp_all [Value.isRef]
theorem vx_isRefq {C n d : String} {A : Nat → Prop} {s : State} {args : Array Value} (h : va_Zq C n d A s s.heap) : (Cond.isRef (.static C n d)).before args s = true := by
  rcases h with h | ⟨t, h⟩
  · exact vx_isRef h rfl
  · exact vx_isRef h rfl
/-- the same frame, seen from here: as if the method were called anew in this heap -/
theorem vx_rebase {T : State} (X : Stand p l e R s m args below meth c T locs cells slots) {R' : Room} (hf : R'.frames ≤ R.frames) (hl : R'.locals ≤ R.locals) (hc : cells + R'.cells ≤ R.cells) (hs : slots + R'.slots ≤ R.slots) :
    Stand p l e R' ((T.setVm s.vm).setFrames (.invoking m args :: below)) m args below meth c T [] 0 0 := by
  have htop : (T.setVm s.vm).topJava?.isSome := X.here.top
  have hF : ((T.setVm s.vm).setFrames (.invoking m args :: below)).frames = .invoking m args :: below := State.frames_setFrames _ (State.cur_lt_of_top htop)
  obtain ⟨g₀, hg0⟩ := Option.isSome_iff_exists.mp htop
  obtain ⟨r, hr⟩ := State.topJava?_eq_some.mp hg0
  have hl9 : e.platform.stackLimits (T.setVm s.vm).me = e.platform.stackLimits s.me := X.limits
  have hb9 : (T.setVm s.vm).me.stackBytes = s.me.stackBytes := X.bytes
  refine ⟨X.admits, X.cas, X.clock, hF, ?_, X.hears, X.method, X.code, X.here, X.tail, X.warmed, ?_, ?_, ?_⟩
  · have h := X.room
    have hU : ((T.setVm s.vm).setFrames (.invoking m args :: below)).localsInUse = s.localsInUse := by
      rw [State.localsInUse_invoking hF (meth := meth) (c := c) X.method X.code, State.localsInUse_invoking X.frames X.method X.code]
    simp only [State.hasRoom, Bool.and_eq_true, decide_eq_true_eq] at h ⊢
    obtain ⟨⟨⟨⟨h1, h2, h3, h4, h5, h6⟩, h7⟩, h8⟩, h9⟩ := h
    rw [X.frames, List.length_cons] at h2 h3
    have q1 := X.heapSize
    have q2 := X.used
    simp only [hF, hU, List.length_cons, State.stackLimits_setFrames, State.stackBytes_setFrames, hl9, hb9]
    refine ⟨⟨⟨⟨by omega, by omega, by omega, by omega, by omega, h6⟩, ?_⟩, ?_⟩, X.book⟩
    · show T.heap.size + R'.cells ≤ e.platform.maxCells
      omega
    · show T.slotsUsed + R'.slots ≤ e.platform.maxSlots
      omega
  · rw [State.stackLimits_setFrames]; rfl
  · rw [State.stackBytes_setFrames]; rfl
  · refine ⟨?_, Nat.le_refl _, Nat.le_refl _, ?_, ?_, fun a c9 h9 => ⟨c9, h9, rfl, rfl, fun _ _ => rfl⟩⟩
    · obtain ⟨t, ht, -⟩ := State.frames_cons hr
      show T.setVm s.vm = { ((T.setVm s.vm).setFrames (.invoking m args :: below)).setFrames (T.setVm s.vm).frames with heap := T.heap, slotsUsed := T.slotsUsed }
      rw [State.setFrames_setFrames, State.setFrames_self ht]
      rfl
    · show T.slotsUsed = T.slotsUsed + ((T.heap.toList.drop T.heap.size).map (·.slots.size)).sum
      rw [List.drop_eq_nil_of_le (Nat.le_of_eq Array.length_toList)]
      rfl
    · show ((T.heap.toList.drop T.heap.size).map (·.slots.size)).sum ≤ 0
      rw [List.drop_eq_nil_of_le (Nat.le_of_eq Array.length_toList)]
      exact Nat.le_refl _
/-- 'throw new E()': new; dup; invokespecial; athrow -/
theorem vx_throw0 {cc : ByteArray} {pc : Nat} (hexec : p.tables.exec = Jvm.exec) (hb : c.code = cc) (hl : l.stackTraces = false) {own cls : String} {names : List String} {ik ic mc ms : Nat} {A : Nat → Prop}
    (hown : s.vm.findClass own = some m.cls) (hcls : Bundle.fit cls = true) (hnames : ∀ n ∈ names, Bundle.fit n = true)
    (hk : (Cond.classLink own ik cls).before args s = true) (hini : (Cond.initialized cls).before args s = true) (hat : ∀ w ∈ vx_at0 own ic cls names, w.before args s = true)
    (hgood : ∀ w ∈ Cond.classLink own ik cls :: Cond.initialized cls :: vx_at0 own ic cls names, vx_ot w = true)
    (hU : vx_Zq Bundle.tN "UNASSIGNED_STACK" Bundle.steD A s s.heap) (hN : vx_Zq Bundle.tN "SUPPRESSED_SENTINEL" Bundle.listD A s s.heap) (hS : va_S A s.heap H locs) (hsize : ls.size = c.maxLocals)
    (d0 : decode cc pc = .ok (.new ik, 3)) (d3 : decode cc (pc + 3) = .ok (.dup, 1)) (d4 : decode cc (pc + 4) = .ok (.invokespecial ic, 3)) (d7 : decode cc (pc + 7) = .ok (.athrow, 1))
    (hout : ∀ x ∈ c.exceptionTable.toList, covers x (pc + 7) = false)
    (hRframes : names.length + 3 < R.frames) (hRlocals : (rest.map fun v => v.category).sum + (13 * (names.length + 1) + 42) ≤ R.locals) (hRcells : cells + 1 ≤ R.cells) (hRslots : slots + 6 ≤ R.slots) (hlocks : meth.locks = false)
    (hx : ∀ t : State, s.vm.Alike t.vm → H.size ≤ t.heap.size → (∀ q : Nat, q < H.size → t.heap[q]? = H[q]?) → XC cls s t)
    (hf : ∀ z ∈ locs, free z.base) (hc : cells + 1 ≤ mc) (hs : slots + 6 ≤ ms) :
    W p l e R s m args below meth c H locs cells slots (vx_MQ below Qc XC args s mc ms free) (F0 m pc ls rest) := by
  intro T hT X
  have htr : e.platform.stackTraces = false := (show e.platform.stackTraces = l.stackTraces by rw [X.admits.platform]).trans hl
  have Y := vx_rebase X (R' := { frames := R.frames, locals := R.locals, cells := 1, slots := 6 }) (Nat.le_refl _) (Nat.le_refl _) hRcells hRslots
  obtain ⟨s', hA⟩ : ∃ z, z = (T.setVm s.vm).setFrames (.invoking m args :: below) := ⟨_, rfl⟩
  rw [← hA] at Y
  have hvm : s'.vm = s.vm := by rw [hA]; rfl
  have hhp : s'.heap = H := by rw [hA]; exact hT
  have hW0 : s.WarmedH s'.vm := by rw [hvm]; exact State.WarmedH.refl s
  have hat' : ∀ w ∈ vx_at0 own ic cls names, w.before args s' = true := fun w hw => vx_ot_at hW0 hvm.symm (hgood w (List.mem_cons_of_mem _ (List.mem_cons_of_mem _ hw))) (hat w hw)
  have hk' : (Cond.classLink own ik cls).before args s' = true := vx_ot_at hW0 hvm.symm (hgood _ List.mem_cons_self) hk
  have hini' : (Cond.initialized cls).before args s' = true := vx_ot_at hW0 hvm.symm (hgood _ (List.mem_cons_of_mem _ List.mem_cons_self)) hini
  have hU' : vx_Zq Bundle.tN "UNASSIGNED_STACK" Bundle.steD A s' s'.heap := by rw [hhp]; exact vx_Zq.moved hW0.alike (hU.kept hS.2.1)
  have hN' : vx_Zq Bundle.tN "SUPPRESSED_SENTINEL" Bundle.listD A s' s'.heap := by rw [hhp]; exact vx_Zq.moved hW0.alike (hN.kept hS.2.1)
  have h : ∀ w ∈ Bundle.ownAtoms0 own ic cls names, w.before args s' = true := vx_own hat' (vx_isRefq hU'.1) (vx_isRefq hN'.1) hU'.2.word hN'.2.word
  have hown' : s'.vm.findClass own = some m.cls := by rw [hvm]; exact hown
  have hins : (Cond.instantiable cls 6).before args s' = true := h _ (by simp [Bundle.ownAtoms0])
  obtain ⟨vm₁, cX, kX, hfX, hkX, -, -, X₁, st1⟩ := Y.newCold hexec (own := own) (C := cls) (index := ik) (n := 6) hown' hk' hins hini'
    (g := F0 m pc ls rest) rfl (by rw [hb]; exact d0) (Nat.le_refl _) (Nat.le_refl _)
  generalize hT1 : (T.setVm vm₁).pushCell { cls := cX, slots := kX.instanceTypes.map defaultValue, vm := .none } = T1 at X₁ st1
  have hcat : (Value.ref T.heap.size).category = 1 := rfl
  have hcellA : T1.heap[T.heap.size]? = some (freshCell cX kX) := by rw [← hT1]; exact State.heap_pushCell_size _ _
  have d3' : decode c.code (pc + 3) = .ok (.dup, 1) := by rw [hb]; exact d3
  obtain ⟨U, hsteps, hrun, hend, hW, hsame, ce, hce, hO⟩ := X₁.ctorThrow0 hexec htr (own := own) (cls := cls) (names := names) (ic := ic) hown' hcls hnames h (fun x hx => nomatch hx) hfX hkX hcellA (by rw [hhp, hT]; exact Nat.le_refl _)
    (g := { method := m, pc := pc + 4, locals := ls, stack := .ref T.heap.size :: .ref T.heap.size :: rest, locked := none }) rfl hsize rfl rfl (rest := rest) rfl
    (by rw [hb]; exact d4) (by rw [hb]; exact d7) hout hRframes (by simp only [List.map_cons, List.sum_cons, hcat]; omega) hlocks
  obtain ⟨f1, f2⟩ := vx_frame hsame
  rw [hhp] at f1 f2
  have hWs : s.WarmedH U.vm := State.WarmedH.trans hW0 hW
  have hcl : s.vm.findClass cls = some ce.cls := by
    have h9 := hO.cls
    rw [hvm] at h9
    exact h9
  have hall : s.sameButNew ({ U with vm := s.vm } : State) locs mc ms := by
    subst hA
    obtain ⟨e1, e2⟩ := hsame
    rw [State.setFrames_setFrames] at e1
    have h2 : (T.setVm s.vm).sameButNew ({ U with vm := s.vm } : State) [] (0 + 1) (0 + 6) := ⟨e1, e2⟩
    have h3 := X.same.trans h2
    rw [List.append_nil] at h3
    exact h3.mono hc hs
  refine ⟨U, ?_, .threw T.heap.size, hrun, hend, Or.inr ⟨T.heap.size, rfl, cls, ce, locs, hx U hWs.alike f1 (fun q hq => f2 q hq (fun z hz => nomatch hz)), hce, hO.vm, hcl, hWs, hall, hf⟩⟩
  refine st1 _ ?_
  show Steps p.tables e below (T1.setTop { method := m, pc := pc + 3, locals := ls, stack := .ref T.heap.size :: rest, locked := none }) _
  jvm_step X₁.here [X₁.here.top, hexec, d3', Value.category]
  exact hsteps
/-- 'throw new E("text")': new; dup; ldc; invokespecial; athrow -/
theorem vx_throwS {cc : ByteArray} {pc : Nat} (hexec : p.tables.exec = Jvm.exec) (hb : c.code = cc) (hl : l.stackTraces = false) {own cls text : String} {names : List String} {ik is ic mc ms sa : Nat} {A : Nat → Prop}
    (hown : s.vm.findClass own = some m.cls) (hcls : Bundle.fit cls = true) (hnames : ∀ n ∈ names, Bundle.fit n = true)
    (hk : (Cond.classLink own ik cls).before args s = true) (hini : (Cond.initialized cls).before args s = true) (hstr : vk_R own is text sa s) (hat : ∀ w ∈ vx_atS own ic cls names, w.before args s = true)
    (hgood : ∀ w ∈ Cond.classLink own ik cls :: Cond.initialized cls :: vx_atS own ic cls names, vx_ot w = true)
    (hU : vx_Zq Bundle.tN "UNASSIGNED_STACK" Bundle.steD A s s.heap) (hN : vx_Zq Bundle.tN "SUPPRESSED_SENTINEL" Bundle.listD A s s.heap) (hS : va_S A s.heap H locs) (hsize : ls.size = c.maxLocals)
    (d0 : decode cc pc = .ok (.new ik, 3)) (d3 : decode cc (pc + 3) = .ok (.dup, 1)) (d4 : decode cc (pc + 4) = .ok (.ldc is, 2)) (d6 : decode cc (pc + 6) = .ok (.invokespecial ic, 3)) (d9 : decode cc (pc + 9) = .ok (.athrow, 1))
    (hout : ∀ x ∈ c.exceptionTable.toList, covers x (pc + 9) = false)
    (hRframes : names.length + 3 < R.frames) (hRlocals : (rest.map fun v => v.category).sum + (13 * (names.length + 1) + 43) ≤ R.locals) (hRcells : cells + 1 ≤ R.cells) (hRslots : slots + 6 ≤ R.slots) (hlocks : meth.locks = false)
    (hx : ∀ t : State, s.vm.Alike t.vm → H.size ≤ t.heap.size → (∀ q : Nat, q < H.size → t.heap[q]? = H[q]?) → XC cls s t)
    (hf : ∀ z ∈ locs, free z.base) (hc : cells + 1 ≤ mc) (hs : slots + 6 ≤ ms) :
    W p l e R s m args below meth c H locs cells slots (vx_MQ below Qc XC args s mc ms free) (F0 m pc ls rest) := by
  intro T hT X
  have htr : e.platform.stackTraces = false := (show e.platform.stackTraces = l.stackTraces by rw [X.admits.platform]).trans hl
  have Y := vx_rebase X (R' := { frames := R.frames, locals := R.locals, cells := 1, slots := 6 }) (Nat.le_refl _) (Nat.le_refl _) hRcells hRslots
  obtain ⟨s', hA⟩ : ∃ z, z = (T.setVm s.vm).setFrames (.invoking m args :: below) := ⟨_, rfl⟩
  rw [← hA] at Y
  have hvm : s'.vm = s.vm := by rw [hA]; rfl
  have hhp : s'.heap = H := by rw [hA]; exact hT
  have hW0 : s.WarmedH s'.vm := by rw [hvm]; exact State.WarmedH.refl s
  have hat' : ∀ w ∈ vx_atS own ic cls names, w.before args s' = true := fun w hw => vx_ot_at hW0 hvm.symm (hgood w (List.mem_cons_of_mem _ (List.mem_cons_of_mem _ hw))) (hat w hw)
  have hk' : (Cond.classLink own ik cls).before args s' = true := vx_ot_at hW0 hvm.symm (hgood _ List.mem_cons_self) hk
  have hini' : (Cond.initialized cls).before args s' = true := vx_ot_at hW0 hvm.symm (hgood _ (List.mem_cons_of_mem _ List.mem_cons_self)) hini
  have hU' : vx_Zq Bundle.tN "UNASSIGNED_STACK" Bundle.steD A s' s'.heap := by rw [hhp]; exact vx_Zq.moved hW0.alike (hU.kept hS.2.1)
  have hN' : vx_Zq Bundle.tN "SUPPRESSED_SENTINEL" Bundle.listD A s' s'.heap := by rw [hhp]; exact vx_Zq.moved hW0.alike (hN.kept hS.2.1)
  have h : ∀ w ∈ Bundle.ownAtoms own ic cls names, w.before args s' = true := vx_own hat' (vx_isRefq hU'.1) (vx_isRefq hN'.1) hU'.2.word hN'.2.word
  have hown' : s'.vm.findClass own = some m.cls := by rw [hvm]; exact hown
  have hins : (Cond.instantiable cls 6).before args s' = true := h _ (by simp [Bundle.ownAtoms])
  obtain ⟨vm₁, cX, kX, hfX, hkX, -, -, X₁, st1⟩ := Y.newCold hexec (own := own) (C := cls) (index := ik) (n := 6) hown' hk' hins hini'
    (g := F0 m pc ls rest) rfl (by rw [hb]; exact d0) (Nat.le_refl _) (Nat.le_refl _)
  generalize hT1 : (T.setVm vm₁).pushCell { cls := cX, slots := kX.instanceTypes.map defaultValue, vm := .none } = T1 at X₁ st1
  have hcat : (Value.ref T.heap.size).category = 1 := rfl
  have hcellA : T1.heap[T.heap.size]? = some (freshCell cX kX) := by rw [← hT1]; exact State.heap_pushCell_size _ _
  have d3' : decode c.code (pc + 3) = .ok (.dup, 1) := by rw [hb]; exact d3
  have d4' : decode c.code (pc + 4) = .ok (.ldc is, 2) := by rw [hb]; exact d4
  have hstr' : vk_R own is text sa s' := vk_R.warm hW0 hstr
  obtain ⟨U, hsteps, hrun, hend, hW, hsame, ce, hce, hO⟩ := X₁.ctorThrowS hexec htr (own := own) (cls := cls) (names := names) (ic := ic) hown' hcls hnames h (fun x hx => nomatch hx) hfX hkX hcellA (by rw [hhp, hT]; exact Nat.le_refl _) (msg := .ref sa) rfl
    (g := { method := m, pc := pc + 6, locals := ls, stack := .ref sa :: .ref T.heap.size :: .ref T.heap.size :: rest, locked := none }) rfl hsize rfl rfl (rest := rest) rfl
    (by rw [hb]; exact d6) (by rw [hb]; exact d9) hout hRframes (by simp only [List.map_cons, List.sum_cons, hcat]; omega) hlocks
  obtain ⟨f1, f2⟩ := vx_frame hsame
  rw [hhp] at f1 f2
  have hWs : s.WarmedH U.vm := State.WarmedH.trans hW0 hW
  have hcl : s.vm.findClass cls = some ce.cls := by
    have h9 := hO.cls
    rw [hvm] at h9
    exact h9
  have hall : s.sameButNew ({ U with vm := s.vm } : State) locs mc ms := by
    subst hA
    obtain ⟨e1, e2⟩ := hsame
    rw [State.setFrames_setFrames] at e1
    have h2 : (T.setVm s.vm).sameButNew ({ U with vm := s.vm } : State) [] (0 + 1) (0 + 6) := ⟨e1, e2⟩
    have h3 := X.same.trans h2
    rw [List.append_nil] at h3
    exact h3.mono hc hs
  refine ⟨U, ?_, .threw T.heap.size, hrun, hend, Or.inr ⟨T.heap.size, rfl, cls, ce, locs, hx U hWs.alike f1 (fun q hq => f2 q hq (fun z hz => nomatch hz)), hce, hO.vm, hcl, hWs, hall, hf⟩⟩
  refine st1 _ ?_
  show Steps p.tables e below (T1.setTop { method := m, pc := pc + 3, locals := ls, stack := .ref T.heap.size :: rest, locked := none }) _
  jvm_step X₁.here [X₁.here.top, hexec, d3', Value.category]
  exact X₁.ldcString hexec (own := own) (text := text) (index := is) (a := sa) hown' hstr'.1 hstr'.2
    (g := { method := m, pc := pc + 4, locals := ls, stack := .ref T.heap.size :: .ref T.heap.size :: rest, locked := none }) rfl d4' _ hsteps
/-- 'throw new E("text")', the text by a wide index -/
theorem vx_throwSW {cc : ByteArray} {pc : Nat} (hexec : p.tables.exec = Jvm.exec) (hb : c.code = cc) (hl : l.stackTraces = false) {own cls text : String} {names : List String} {ik is ic mc ms sa : Nat} {A : Nat → Prop}
    (hown : s.vm.findClass own = some m.cls) (hcls : Bundle.fit cls = true) (hnames : ∀ n ∈ names, Bundle.fit n = true)
    (hk : (Cond.classLink own ik cls).before args s = true) (hini : (Cond.initialized cls).before args s = true) (hstr : vk_R own is text sa s) (hat : ∀ w ∈ vx_atS own ic cls names, w.before args s = true)
    (hgood : ∀ w ∈ Cond.classLink own ik cls :: Cond.initialized cls :: vx_atS own ic cls names, vx_ot w = true)
    (hU : vx_Zq Bundle.tN "UNASSIGNED_STACK" Bundle.steD A s s.heap) (hN : vx_Zq Bundle.tN "SUPPRESSED_SENTINEL" Bundle.listD A s s.heap) (hS : va_S A s.heap H locs) (hsize : ls.size = c.maxLocals)
    (d0 : decode cc pc = .ok (.new ik, 3)) (d3 : decode cc (pc + 3) = .ok (.dup, 1)) (d4 : decode cc (pc + 4) = .ok (.ldc_w is, 3)) (d7 : decode cc (pc + 7) = .ok (.invokespecial ic, 3)) (d10 : decode cc (pc + 10) = .ok (.athrow, 1))
    (hout : ∀ x ∈ c.exceptionTable.toList, covers x (pc + 10) = false)
    (hRframes : names.length + 3 < R.frames) (hRlocals : (rest.map fun v => v.category).sum + (13 * (names.length + 1) + 43) ≤ R.locals) (hRcells : cells + 1 ≤ R.cells) (hRslots : slots + 6 ≤ R.slots) (hlocks : meth.locks = false)
    (hx : ∀ t : State, s.vm.Alike t.vm → H.size ≤ t.heap.size → (∀ q : Nat, q < H.size → t.heap[q]? = H[q]?) → XC cls s t)
    (hf : ∀ z ∈ locs, free z.base) (hc : cells + 1 ≤ mc) (hs : slots + 6 ≤ ms) :
    W p l e R s m args below meth c H locs cells slots (vx_MQ below Qc XC args s mc ms free) (F0 m pc ls rest) := by
  intro T hT X
  have htr : e.platform.stackTraces = false := (show e.platform.stackTraces = l.stackTraces by rw [X.admits.platform]).trans hl
  have Y := vx_rebase X (R' := { frames := R.frames, locals := R.locals, cells := 1, slots := 6 }) (Nat.le_refl _) (Nat.le_refl _) hRcells hRslots
  obtain ⟨s', hA⟩ : ∃ z, z = (T.setVm s.vm).setFrames (.invoking m args :: below) := ⟨_, rfl⟩
  rw [← hA] at Y
  have hvm : s'.vm = s.vm := by rw [hA]; rfl
  have hhp : s'.heap = H := by rw [hA]; exact hT
  have hW0 : s.WarmedH s'.vm := by rw [hvm]; exact State.WarmedH.refl s
  have hat' : ∀ w ∈ vx_atS own ic cls names, w.before args s' = true := fun w hw => vx_ot_at hW0 hvm.symm (hgood w (List.mem_cons_of_mem _ (List.mem_cons_of_mem _ hw))) (hat w hw)
  have hk' : (Cond.classLink own ik cls).before args s' = true := vx_ot_at hW0 hvm.symm (hgood _ List.mem_cons_self) hk
  have hini' : (Cond.initialized cls).before args s' = true := vx_ot_at hW0 hvm.symm (hgood _ (List.mem_cons_of_mem _ List.mem_cons_self)) hini
  have hU' : vx_Zq Bundle.tN "UNASSIGNED_STACK" Bundle.steD A s' s'.heap := by rw [hhp]; exact vx_Zq.moved hW0.alike (hU.kept hS.2.1)
  have hN' : vx_Zq Bundle.tN "SUPPRESSED_SENTINEL" Bundle.listD A s' s'.heap := by rw [hhp]; exact vx_Zq.moved hW0.alike (hN.kept hS.2.1)
  have h : ∀ w ∈ Bundle.ownAtoms own ic cls names, w.before args s' = true := vx_own hat' (vx_isRefq hU'.1) (vx_isRefq hN'.1) hU'.2.word hN'.2.word
  have hown' : s'.vm.findClass own = some m.cls := by rw [hvm]; exact hown
  have hins : (Cond.instantiable cls 6).before args s' = true := h _ (by simp [Bundle.ownAtoms])
  obtain ⟨vm₁, cX, kX, hfX, hkX, -, -, X₁, st1⟩ := Y.newCold hexec (own := own) (C := cls) (index := ik) (n := 6) hown' hk' hins hini'
    (g := F0 m pc ls rest) rfl (by rw [hb]; exact d0) (Nat.le_refl _) (Nat.le_refl _)
  generalize hT1 : (T.setVm vm₁).pushCell { cls := cX, slots := kX.instanceTypes.map defaultValue, vm := .none } = T1 at X₁ st1
  have hcat : (Value.ref T.heap.size).category = 1 := rfl
  have hcellA : T1.heap[T.heap.size]? = some (freshCell cX kX) := by rw [← hT1]; exact State.heap_pushCell_size _ _
  have d3' : decode c.code (pc + 3) = .ok (.dup, 1) := by rw [hb]; exact d3
  have d4' : decode c.code (pc + 4) = .ok (.ldc_w is, 3) := by rw [hb]; exact d4
  have hstr' : vk_R own is text sa s' := vk_R.warm hW0 hstr
  obtain ⟨U, hsteps, hrun, hend, hW, hsame, ce, hce, hO⟩ := X₁.ctorThrowS hexec htr (own := own) (cls := cls) (names := names) (ic := ic) hown' hcls hnames h (fun x hx => nomatch hx) hfX hkX hcellA (by rw [hhp, hT]; exact Nat.le_refl _) (msg := .ref sa) rfl
    (g := { method := m, pc := pc + 7, locals := ls, stack := .ref sa :: .ref T.heap.size :: .ref T.heap.size :: rest, locked := none }) rfl hsize rfl rfl (rest := rest) rfl
    (by rw [hb]; exact d7) (by rw [hb]; exact d10) hout hRframes (by simp only [List.map_cons, List.sum_cons, hcat]; omega) hlocks
  obtain ⟨f1, f2⟩ := vx_frame hsame
  rw [hhp] at f1 f2
  have hWs : s.WarmedH U.vm := State.WarmedH.trans hW0 hW
  have hcl : s.vm.findClass cls = some ce.cls := by
    have h9 := hO.cls
    rw [hvm] at h9
    exact h9
  have hall : s.sameButNew ({ U with vm := s.vm } : State) locs mc ms := by
    subst hA
    obtain ⟨e1, e2⟩ := hsame
    rw [State.setFrames_setFrames] at e1
    have h2 : (T.setVm s.vm).sameButNew ({ U with vm := s.vm } : State) [] (0 + 1) (0 + 6) := ⟨e1, e2⟩
    have h3 := X.same.trans h2
    rw [List.append_nil] at h3
    exact h3.mono hc hs
  refine ⟨U, ?_, .threw T.heap.size, hrun, hend, Or.inr ⟨T.heap.size, rfl, cls, ce, locs, hx U hWs.alike f1 (fun q hq => f2 q hq (fun z hz => nomatch hz)), hce, hO.vm, hcl, hWs, hall, hf⟩⟩
  refine st1 _ ?_
  show Steps p.tables e below (T1.setTop { method := m, pc := pc + 3, locals := ls, stack := .ref T.heap.size :: rest, locked := none }) _
  jvm_step X₁.here [X₁.here.top, hexec, d3', Value.category]
  exact X₁.ldcStringW hexec (own := own) (text := text) (index := is) (a := sa) hown' hstr'.1 hstr'.2
    (g := { method := m, pc := pc + 4, locals := ls, stack := .ref T.heap.size :: .ref T.heap.size :: rest, locked := none }) rfl d4' _ hsteps
end Ends
section Bodies
variable {l : Launch}
theorem vx_ofW {y : MethodName} {ws ws' : List Cond} {rm : Room} {Pc : Array Value → State → Prop} {Qc : Array Value → State → Outcome → State → Prop} {XC : String → State → State → Prop} {mc ms : Nat} {free : Addr → Prop} {cc : ByteArray} {maxL : Nat} {ret : Option FieldType}
    (hy : plainName y.cls = true) (hw : ws = Cond.code y cc maxL ret :: ws')
    (body : ∀ p e s m args below meth c s₁, BodyLoose p l y (headSpec ws rm) cc maxL ret e s m args below meth c s₁ → c.maxLocals = maxL → (∀ x ∈ c.exceptionTable.toList, False) → Pc args s →
      W p l e (headSpec ws rm).room s m args below meth c s.heap [] 0 0 (vx_MQ below Qc XC args s mc ms free) (entryFrame m args maxL)) : vx_Met l y ws rm Pc Qc XC mc ms free := by
  refine MetFree.of_bodyS (code := cc) (maxLocals := maxL) (ret := ret) hy ?_ ?_
  · intro args s m h hn
    obtain ⟨meth, c, h1, h2, h3, h4, h5, h6, -, -⟩ := Cond.code_spec hn (atoms_spec (ws := ws) h _ (by rw [hw]; exact List.mem_cons_self))
    exact ⟨meth, c, h1, h2, h3, h4, h5, h6⟩
  · intro p e s m args below meth c s₁ B hml hP _
    have hh0 : s₁.heap = s.heap := by rw [B.state]; rfl
    have ht : ∀ x ∈ c.exceptionTable.toList, False := by
      obtain ⟨meth9, c9, h1, h2, -, -, -, -, h7, -⟩ := Cond.code_spec B.named (atoms_spec (ws := ws) B.pre _ (by rw [hw]; exact List.mem_cons_self))
      cases Option.some.inj (h1.symm.trans B.method)
      cases Option.some.inj (h2.symm.trans (Stand.of_body B).code)
      intro x hx
      rw [Array.isEmpty_iff.mp h7] at hx
      cases hx
    obtain ⟨t, a1, o, b1, b2, b3⟩ := body p e s m args below meth c s₁ B hml ht hP s₁ hh0 (Stand.of_body B)
    exact ⟨t, o, a1, b1, b2, b3⟩
/-- the table of a body with handlers -/
theorem vx_table {p : Program} {x y : MethodName} {S : Spec} {cc bytes : ByteArray} {maxL maxL' : Nat} {ret ret' : Option FieldType} {e : Env} {s s₁ : State} {m : MethodId} {args : Array Value} {below : List Frame} {meth : Method} {c : Code} {hh : List (Nat × Nat × Nat × Nat)}
    (B : BodyLoose p l y S cc maxL ret e s m args below meth c s₁) (h : (Cond.codeWith y bytes maxL' ret' hh).before args s = true) : c.exceptionTable.toList = tableOf hh := by
  obtain ⟨m9, meth9, c9, hn9, h1, h2, -, -, h6, -⟩ := Cond.codeWith_spec h
  cases Option.some.inj (hn9.symm.trans B.named)
  cases Option.some.inj (h1.symm.trans B.method)
  cases Option.some.inj (h2.symm.trans (Stand.of_body B).code)
  rw [← h6, table_eq]
end Bodies
end VXA
/-! ===== END ===== -/
/-! ===== BEGIN a static call of a method with an exception table ===== -/
section VXS
variable {p : Program} {l : Launch} {e : Env} {R : Room} {s : State} {m : MethodId} {args : Array Value} {below : List Frame} {meth : Method} {c : Code} {T : State} {H : Heap} {locs : List Loc} {cells slots : Nat}
abbrev vx_CSW (R : Room) (s : State) (args : Array Value) (own : String) (index : Nat) (y : MethodName) (bytes : ByteArray) (maxL : Nat) (ret : Option FieldType) (hh : List (Nat × Nat × Nat × Nat)) (ws : List Cond) (rm : Room) (mc ms n : Nat) : Prop :=
  (rm.cells = mc ∧ rm.slots = ms ∧ rm.frames + 1 ≤ R.frames ∧ 8 + (maxL + 11) + rm.locals ≤ R.locals ∧ (∀ w ∈ ws, ∀ (a' : Array Value) (U : State), s.WarmedH U.vm → w.before a' U = true) ∧ Cond.codeWith y bytes maxL ret hh ∈ ws) ∧
  (Cond.codeWith y bytes maxL ret hh).before args s = true ∧ (Cond.initialized y.cls).before args s = true ∧ (y.cls ≠ "java/lang/invoke/MethodHandle" ∧ y.cls ≠ "java/lang/invoke/VarHandle") ∧
  (∀ sig, parseMethodDescriptor y.desc = some sig → n = sig.parameters.length) ∧ (Cond.methodLink own index y).before args s = true ∧ (Cond.static y).before args s = true
theorem vx_cwSW {own : String} {index maxL mc ms : Nat} {y : MethodName} {bytes : ByteArray} {ret : Option FieldType} {hh : List (Nat × Nat × Nat × Nat)} {Ts ws ws' : List Cond} {rm : Room} (n : Nat) (ht : ∀ w ∈ Ts, w.before args s = true) (hT : GoodIn Ts (va_wsS own index y ws)) (hw : ws = Cond.codeWith y bytes maxL ret hh :: ws') (hrc : rm.cells = mc) (hrs : rm.slots = ms)
    (hd : y.cls ≠ "java/lang/invoke/MethodHandle" ∧ y.cls ≠ "java/lang/invoke/VarHandle" ∧ (parseMethodDescriptor y.desc).map (fun d => d.parameters.length) = some n) (hR : rm.frames + 1 ≤ R.frames ∧ 8 + (maxL + 11) + rm.locals ≤ R.locals) :
    vx_CSW R s args own index y bytes maxL ret hh ws rm mc ms n := by
  have ok : ∀ w ∈ va_wsS own index y ws, w.before args s = true := fun w h => ht w (hT w h).1
  have hG : GoodIn Ts ws := fun w h => hT w (by unfold va_wsS; exact List.mem_append_right _ h)
  have hc : Cond.codeWith y bytes maxL ret hh ∈ ws := by rw [hw]; exact List.mem_cons_self
  refine ⟨⟨hrc, hrs, hR.1, hR.2, pay_in ht hG, hc⟩, ht _ (hG _ hc).1, ok _ (by simp [va_wsS]), ⟨hd.1, hd.2.1⟩, fun sig h => ?_, ok _ (by simp [va_wsS]), ok _ (by simp [va_wsS])⟩
  have h2 := hd.2.2
  rw [h] at h2
  exact (Option.some.inj h2).symm
theorem vx_callSW (X : Stand p l e R s m args below meth c T locs cells slots) (hexec : p.tables.exec = Jvm.exec) {own : String} {index : Nat} {y : MethodName} {bytes : ByteArray} {maxL : Nat} {ret : Option FieldType} {hh : List (Nat × Nat × Nat × Nat)}
    (hown : s.vm.findClass own = some m.cls) (hlink : (Cond.methodLink own index y).before args s = true) (hstat : (Cond.static y).before args s = true) (hinit : (Cond.initialized y.cls).before args s = true)
    (hcode : (Cond.codeWith y bytes maxL ret hh).before args s = true) (hy : y.cls ≠ "java/lang/invoke/MethodHandle" ∧ y.cls ≠ "java/lang/invoke/VarHandle")
    {W9 : Nat} {Pre : Pt → Array Value → Prop} {Post : Pt → Array Value → Option Value → Pt → Prop} (hK : Back l R p e below s args y 3 W9 Pre Post)
    {g : JFrame} (hg : g.method = m) (hsize : g.locals.size = c.maxLocals) {argsL rest : List Value} (hlen : ∀ sig, parseMethodDescriptor y.desc = some sig → argsL.length = sig.parameters.length)
    (hstack : g.stack = argsL.reverse ++ rest) (hW : 2 * g.monitorRoom + (rest.map fun v => v.category).sum ≤ W9) (hdg : decode c.code g.pc = .ok (.invokestatic index, 3))
    (hpre : ∀ vm₁, s.WarmedH vm₁ → Pre ⟨T.setVm vm₁, locs, cells, slots⟩ argsL.toArray) :
    ∃ (v : Option Value) (vm₁ : Vm) (B : Pt), s.WarmedH vm₁ ∧ Stand p l e R s m args below meth c B.U B.locs B.cells B.slots ∧ Post ⟨T.setVm vm₁, locs, cells, slots⟩ argsL.toArray v B ∧
      ∀ target, Steps p.tables e below (B.U.setTop { g with pc := g.pc + 3, stack := v.toList ++ rest }) target → Steps p.tables e below (T.setTop g) target := by
  obtain ⟨mk, methM, cM, hnamed, hmethM, -, -, -, -, -, -, hsigM⟩ := Cond.codeWith_spec hcode
  have hstatic : methM.isStatic = true := Cond.static_spec hnamed hmethM hstat
  obtain ⟨kP, hkP, -⟩ := className_of_methodNamed hnamed
  have hinitP : kP.init = .initialized := Cond.initialized_spec (findClass_of_methodNamed hnamed) hkP hinit
  obtain ⟨vm₁, X₁, hstep₁⟩ := X.invokestatic hexec hown hlink hnamed hmethM hstatic hkP hinitP hy (g := g) hg (argsL := argsL) (rest := rest) (hlen _ hsigM) hstack hdg
  obtain ⟨v, B, X', hpost, hsteps⟩ := hK m meth c ⟨T.setVm vm₁, locs, cells, slots⟩ { g with stack := rest } (.invokestatic index) mk argsL.toArray X₁ hg hsize hdg hW (X₁.named hnamed) (hpre vm₁ X₁.warmed)
  exact ⟨v, vm₁, B, X₁.warmed, X', hpost, fun target h => hstep₁ _ fun acts => by rw [doInvoke_state]; exact hsteps.trans h⟩
theorem vx_runSW {y : MethodName} {bytes cc : ByteArray} {maxL nL mc ms n index : Nat} {ret : Option FieldType} {hh : List (Nat × Nat × Nat × Nat)} {ws : List Cond} {rm : Room} {Pc : Array Value → State → Prop} {Qc : Array Value → State → Outcome → State → Prop} {free : Addr → Prop} {Ts : List Cond} {own : String} {As rest : List Value} {g : JFrame}
    (S : CallFix p m c cc nL s args Ts own) (hM : Met l y ws rm Pc Qc mc ms free) (cw : vx_CSW R s args own index y bytes maxL ret hh ws rm mc ms n) (hp : PreS s H Pc As)
    (hg : g.method = m) (hn : As.length = n) (hsize : g.locals.size = nL) (hstack : g.stack = As.reverse ++ rest) (hW : 2 * g.monitorRoom + (rest.map fun v => v.category).sum ≤ 8) (hdg : decode cc g.pc = .ok (.invokestatic index, 3)) (hf : cells + mc ≤ R.cells ∧ slots + ms ≤ R.slots) :
    va_Run p l e R s m args below meth c H locs cells slots mc ms g rest (Qc As.toArray) (free) := by
  obtain ⟨⟨hrc, hrs, hfr, hlo, hws, hcw⟩, hcode, hini, hy, hlen, hl, hstt⟩ := cw
  have hK : Back l R p e below s args y 3 8 (PreOf R mc ms Pc) (PostOf Qc mc ms free) := va_backW (hh := hh) (bytes := bytes) (maxL := maxL) (ret := ret) hM hp.1 hrc hrs hfr hlo hws hcw (fun a' U hW => word_at hW (Or.inl (by first | rfl | simp [Cond.onTables, Cond.keeps, Cond.steady])) hini)
  obtain ⟨hx, hb, hml, ho, -⟩ := S
  intro T hT X
  obtain ⟨v, vm₁, ⟨U', l2, c2, s2⟩, hW₁, X', ⟨g', mk, t, L, e1, e2, hq, h1, hL, h2, h3⟩, st⟩ := vx_callSW X hx (hh := hh) (bytes := bytes) (maxL := maxL) (ret := ret) ho hl hstt hini hcode hy hK hg (hsize.trans hml.symm) (argsL := As) (rest := rest) (fun sig h => hn.trans (hlen sig h)) hstack hW (by rw [hb]; exact hdg)
    (fun vm₁ hW₁ => ⟨hf.1, hf.2, hp.2 (T.setVm vm₁) hT hW₁⟩)
  dsimp only [Pt.U, Pt.locs, Pt.cells, Pt.slots] at X' e1 e2 h1 h2 h3 st
  subst h1; subst h2; subst h3
  exact ⟨v, (T.setVm vm₁).calling g' mk As.toArray, t, U', L, hT, X', hL, e1, e2, hq, st⟩
/-- a thing of a world lies in the heap -/
theorem vx_lt {D : va_G} {cl : List vw_C} {ws : va_W} {H1 : Heap} (h : va_P D cl ws H1) {k : Nat} {q : Nat × va_E} (hk : ws[k]? = some q) : q.1 < H1.size := (h k q hk).lt
end VXS
/-! ===== END ===== -/
/-! ===== BEGIN methods with a table of their own: called by a name, returning or throwing ===== -/
section VXH
/-! vx_backW, vx_callVX, vx_callSX, vx_callVW, vx_runVW, vx_runVX, vx_runSX, vx_ofWH follow the same proofs as their sisters above (Free/Laws.lean, Shelf42/LK1.lean); vx_outP calls Shelf42/NT130.lean (outThrough). -/
section
variable {l : Launch} {R : Room} {p : Program} {e : Env} {below : List Frame} {s : State} {sargs : Array Value} {y : MethodName} {len W9 : Nat}
theorem vx_backW {ws : List Cond} {rm : Room} {Pc : Array Value → State → Prop} {Qc : Array Value → State → Outcome → State → Prop} {XC : String → State → State → Prop} {mc ms : Nat} {free : Addr → Prop} {bytes : ByteArray} {maxL : Nat} {ret : Option FieldType} {hh : List (Nat × Nat × Nat × Nat)}
    (hM : vx_Met l y ws rm Pc Qc XC mc ms free) (hblind : FrameBlind Pc) (hrc : rm.cells = mc) (hrs : rm.slots = ms)
    (hframes : rm.frames + 1 ≤ R.frames) (hlocals : W9 + (maxL + 11) + rm.locals ≤ R.locals)
    (hws : ∀ w ∈ ws, ∀ a' U, s.WarmedH U.vm → w.before a' U = true) (hcode : Cond.codeWith y bytes maxL ret hh ∈ ws) (hinit : ∀ a' U, s.WarmedH U.vm → (Cond.initialized y.cls).before a' U = true) :
    vx_Back l R p e below s sargs y len W9 (PreOf R mc ms Pc) (PostOf Qc mc ms free) (vx_Post XC mc ms free) := by
  intro m meth c A g ig mk a X hg hsize hdg hW hn hp
  have h1 : (headSpec ws rm).pre.before a A.U = true := atoms_intro fun w hw => hws w hw _ _ X.warmed
  have h2 : (Cond.codeWith y bytes maxL ret hh).before a A.U = true := hws _ hcode _ _ X.warmed
  have h3 : (Cond.initialized y.cls).before a A.U = true := hinit _ _ X.warmed
  have h4 : A.cells + (headSpec ws rm).room.cells ≤ R.cells := by rw [show (headSpec ws rm).room.cells = mc from hrc]; exact hp.1
  have h5 : A.slots + (headSpec ws rm).room.slots ≤ R.slots := by rw [show (headSpec ws rm).room.slots = ms from hrs]; exact hp.2.1
  have hPc : Pc a (A.U.calling g mk a) := hblind _ _ _ _ hp.2.2
  obtain ⟨U, Ls, c0, s0⟩ := A
  dsimp only [Pt.U, Pt.locs, Pt.cells, Pt.slots] at h1 h2 h3 h4 h5 X hn hPc ⊢
  obtain ⟨m9, methY, cY, hn9, hmY, hcY, -, hlY, -⟩ := Cond.codeWith_spec h2
  cases Option.some.inj (hn9.symm.trans hn)
  obtain ⟨kY, hkY, -⟩ := className_of_methodNamed hn
  have hinitY : kY.init = .initialized := Cond.initialized_spec (findClass_of_methodNamed hn) hkY h3
  have h : At U g.method c below := by rw [hg]; exact X.here
  have hlocals9 : W9 + (maxL + 11) + (headSpec ws rm).room.locals ≤ R.locals := hlocals
  have happ : (headSpec ws rm).appliesLoose y e.platform (U.calling g mk a) = true :=
    Spec.appliesLoose_calling (g := g) h hdg hn hkY hinitY
      (X.room_calling (g := g) (R' := (headSpec ws rm).room) hsize hmY hcY hframes (by rw [hlY]; omega) h4 h5) h1
  obtain ⟨mid, hmid⟩ := h.above
  have hfr : (U.setTop g).frames = (.java g :: mid) ++ below := by rw [State.frames_setTop' g h.top, hmid]; rfl
  obtain ⟨o, s₂, hsteps, -, hend, hq⟩ := Steps.callFree hM p X.admits X.cas X.clock (acts := []) hfr happ hPc trivial
  have hq' : vx_Q Qc XC mc ms free a (U.calling g mk a) o s₂ := hq
  rw [State.frames_setTop' g h.top] at hend
  obtain ⟨g₀, hg0⟩ := Option.isSome_iff_exists.mp h.top
  obtain ⟨r, hr⟩ := State.topJava?_eq_some.mp hg0
  have hr' : (({ U with heap := s₂.heap, slotsUsed := s₂.slotsUsed } : State).setVm s₂.vm).frames = .java g₀ :: r := hr
  rcases hq' with ⟨hqc, L, hfe, hL⟩ | ⟨q, rfl, E, ce, L, hx, hce, hcv, hcl, hW₂, hsm, hL⟩
  · obtain ⟨⟨v, rfl⟩, hW₂, e2, q2, q3, q4, q5, q6⟩ := id hfe
    have e3 : s₂ = ({ (U.calling g mk a).setFrames s₂.frames with heap := s₂.heap, slotsUsed := s₂.slotsUsed } : State).setVm s₂.vm := by
      have : s₂ = ({ s₂ with vm := (U.calling g mk a).vm } : State).setVm s₂.vm := rfl
      rw [e2] at this
      exact this
    obtain ⟨c₂, i₂, len₂, hc₂, hd₂, hf₂⟩ := hend
    have hW' : U.WarmedH s₂.vm := hW₂
    have hcc : c₂ = c := by
      have h1 : s₂.code? g.method = U.code? g.method := by
        rw [State.code?_eq, State.code?_eq, hW'.alike.method?]
      exact Option.some.inj (hc₂.symm.trans (h1.trans h.code))
    subst hcc
    have hlen : len₂ = len := by rw [hdg] at hd₂; cases hd₂; rfl
    subst hlen
    have hs₂ : s₂ = (({ U with heap := s₂.heap, slotsUsed := s₂.slotsUsed } : State).setVm s₂.vm).setTop { g with pc := g.pc + len₂, stack := v.toList ++ g.stack } := by
      refine e3.trans ?_
      rw [hf₂, State.calling_eq h.top, State.setFrames_setFrames, State.setTop_of_frames _ hr', hr]
      rfl
    have hsame : U.sameButNew ({ U with heap := s₂.heap, slotsUsed := s₂.slotsUsed } : State) L mc ms := by
      refine ⟨?_, q2, q3, q4, q5, q6⟩
      obtain ⟨t, ht, -⟩ := State.frames_cons hr
      show ({ U with heap := s₂.heap, slotsUsed := s₂.slotsUsed } : State) = { U.setFrames U.frames with heap := s₂.heap, slotsUsed := s₂.slotsUsed }
      rw [State.setFrames_self ht]
    subst hg
    refine Or.inl ⟨v, ⟨(({ U with heap := s₂.heap, slotsUsed := s₂.slotsUsed } : State).setVm s₂.vm), Ls ++ L, c0 + mc, s0 + ms⟩,
      ⟨X.admits, X.cas, X.clock, X.frames, X.room, X.hears, X.method, X.code, (X.here.setHeapUsed s₂.heap s₂.slotsUsed).setVm hW'.alike, X.tail, State.WarmedH.trans X.warmed hW', X.limits, X.bytes, X.same.trans (hsame.setVm s.vm)⟩,
      ⟨g, mk, s₂, L, rfl, rfl, hqc, rfl, hL, rfl, rfl⟩, ?_⟩
    show Steps p.tables e below _ ((({ U with heap := s₂.heap, slotsUsed := s₂.slotsUsed } : State).setVm s₂.vm).setTop { g with pc := g.pc + len₂, stack := v.toList ++ g.stack })
    rw [← hs₂]
    exact hsteps
  · obtain ⟨e2, q2, q3, q4, q5, q6⟩ := id hsm
    have e3 : s₂ = ({ (U.calling g mk a).setFrames s₂.frames with heap := s₂.heap, slotsUsed := s₂.slotsUsed } : State).setVm s₂.vm := by
      have : s₂ = ({ s₂ with vm := (U.calling g mk a).vm } : State).setVm s₂.vm := rfl
      rw [e2] at this
      exact this
    have hf₂ : s₂.frames = .throwing q :: .java g :: U.frames.tail := hend
    have hW' : U.WarmedH s₂.vm := hW₂
    have hs₂ : s₂ = ((({ U with heap := s₂.heap, slotsUsed := s₂.slotsUsed } : State).setVm s₂.vm).setTop g).pushFrame (.throwing q) := by
      refine e3.trans ?_
      rw [hf₂, State.calling_eq h.top, State.setFrames_setFrames, State.pushFrame, State.frames_setTop _ hr', State.setTop_of_frames _ hr', State.setFrames_setFrames, hr]
      rfl
    have hsame : U.sameButNew ({ U with heap := s₂.heap, slotsUsed := s₂.slotsUsed } : State) L mc ms := by
      refine ⟨?_, q2, q3, q4, q5, q6⟩
      obtain ⟨t, ht, -⟩ := State.frames_cons hr
      show ({ U with heap := s₂.heap, slotsUsed := s₂.slotsUsed } : State) = { U.setFrames U.frames with heap := s₂.heap, slotsUsed := s₂.slotsUsed }
      rw [State.setFrames_self ht]
    subst hg
    refine Or.inr ⟨q, ⟨(({ U with heap := s₂.heap, slotsUsed := s₂.slotsUsed } : State).setVm s₂.vm), Ls ++ L, c0 + mc, s0 + ms⟩,
      ⟨X.admits, X.cas, X.clock, X.frames, X.room, X.hears, X.method, X.code, (X.here.setHeapUsed s₂.heap s₂.slotsUsed).setVm hW'.alike, X.tail, State.WarmedH.trans X.warmed hW', X.limits, X.bytes, X.same.trans (hsame.setVm s.vm)⟩,
      ⟨g, mk, s₂, L, E, ce, rfl, rfl, hx, hce, hcv, hcl, rfl, hL, rfl, rfl⟩, ?_⟩
    show Steps p.tables e below _ (((({ U with heap := s₂.heap, slotsUsed := s₂.slotsUsed } : State).setVm s₂.vm).setTop g).pushFrame (.throwing q))
    rw [← hs₂]
    exact hsteps
end
variable {p : Program} {l : Launch} {e : Env} {R : Room} {s : State} {m : MethodId} {args : Array Value} {below : List Frame} {meth : Method} {c : Code} {T : State} {H : Heap} {locs : List Loc} {cells slots : Nat}
theorem vx_callVX (X : Stand p l e R s m args below meth c T locs cells slots) (hexec : p.tables.exec = Jvm.exec) {own C : String} {index : Nat} {y : MethodName} {bytes : ByteArray} {maxL : Nat} {ret : Option FieldType} {hh : List (Nat × Nat × Nat × Nat)}
    (hown : s.vm.findClass own = some m.cls) (hlink : (Cond.methodLink own index y).before args s = true) (hinst : (Cond.instanceMethod y).before args s = true) (hsel : (Cond.selects C y y).before args s = true)
    (hcode : (Cond.codeWith y bytes maxL ret hh).before args s = true) (hy : y.cls ≠ "java/lang/invoke/MethodHandle" ∧ y.cls ≠ "java/lang/invoke/VarHandle")
    {W9 : Nat} {Pre : Pt → Array Value → Prop} {Post : Pt → Array Value → Option Value → Pt → Prop} {PostX : Pt → Array Value → Addr → Pt → Prop} (hK : vx_Back l R p e below s args y 3 W9 Pre Post PostX)
    {b : Addr} {cellB : Cell} (hcell : T.heap[b]? = some cellB) (hobj : cellB.vm.isStatics = false) (hcls : s.vm.findClass C = some cellB.cls)
    {g : JFrame} (hg : g.method = m) (hsize : g.locals.size = c.maxLocals) {argsL rest : List Value} (hlen : ∀ sig, parseMethodDescriptor y.desc = some sig → argsL.length = sig.parameters.length)
    (hstack : g.stack = argsL.reverse ++ .ref b :: rest) (hW : 2 * g.monitorRoom + (rest.map fun v => v.category).sum ≤ W9) (hdg : decode c.code g.pc = .ok (.invokevirtual index, 3))
    (hpre : ∀ vm₁, s.WarmedH vm₁ → Pre ⟨T.setVm vm₁, locs, cells, slots⟩ (Value.ref b :: argsL).toArray) :
    (∃ (v : Option Value) (vm₁ : Vm) (B : Pt), s.WarmedH vm₁ ∧ Stand p l e R s m args below meth c B.U B.locs B.cells B.slots ∧ Post ⟨T.setVm vm₁, locs, cells, slots⟩ (Value.ref b :: argsL).toArray v B ∧
      ∀ target, Steps p.tables e below (B.U.setTop { g with pc := g.pc + 3, stack := v.toList ++ rest }) target → Steps p.tables e below (T.setTop g) target) ∨
    (∃ (q : Addr) (vm₁ : Vm) (B : Pt), s.WarmedH vm₁ ∧ Stand p l e R s m args below meth c B.U B.locs B.cells B.slots ∧ PostX ⟨T.setVm vm₁, locs, cells, slots⟩ (Value.ref b :: argsL).toArray q B ∧
      Steps p.tables e below (T.setTop g) ((B.U.setTop { g with stack := rest }).pushFrame (.throwing q))) := by
  obtain ⟨mk, methM, hnamed, hmethM, hstM, habM⟩ := Cond.instanceMethod_spec hinst
  obtain ⟨m8, methM', cM, hn8, hmethM', -, -, -, -, -, -, hsigM⟩ := Cond.codeWith_spec hcode
  cases Option.some.inj (hn8.symm.trans hnamed)
  cases hmethM.symm.trans hmethM'
  obtain ⟨c2, r2, m2, q1, q2, q3, q4, kP, hkP, hkPi⟩ := Cond.selects_spec hsel
  cases hcls.symm.trans q1
  cases (State.methodFound?_of_named hnamed hy).symm.trans q2
  cases hnamed.symm.trans q3
  have hselP : selectMethod e.platform s.vm cellB.cls mk = .method mk := by rw [Launch.admits_selectMethod X.admits]; exact q4
  obtain ⟨vm₁, X₁, hstep₁⟩ := X.invokevirtual hexec hown hlink hnamed hmethM hstM hkP hkPi hy (a := b) (cell := cellB) hcell
    (fun z h => by rw [h] at hobj; cases hobj) hselP hmethM habM hkP hkPi (g := g) hg (argsL := argsL) (rest := rest) (hlen _ hsigM) hstack hdg
  rcases hK m meth c ⟨T.setVm vm₁, locs, cells, slots⟩ { g with stack := rest } (.invokevirtual index) mk (Value.ref b :: argsL).toArray X₁ hg hsize hdg hW (X₁.named hnamed) (hpre vm₁ X₁.warmed) with ⟨v, B, X', hpost, hsteps⟩ | ⟨q, B, X', hpost, hsteps⟩
  · exact Or.inl ⟨v, vm₁, B, X₁.warmed, X', hpost, fun target h => hstep₁ _ fun acts => by rw [doInvoke_state]; exact hsteps.trans h⟩
  · exact Or.inr ⟨q, vm₁, B, X₁.warmed, X', hpost, hstep₁ _ fun acts => by rw [doInvoke_state]; exact hsteps⟩
theorem vx_callSX (X : Stand p l e R s m args below meth c T locs cells slots) (hexec : p.tables.exec = Jvm.exec) {own : String} {index : Nat} {y : MethodName} {bytes : ByteArray} {maxL : Nat} {ret : Option FieldType} {hh : List (Nat × Nat × Nat × Nat)}
    (hown : s.vm.findClass own = some m.cls) (hlink : (Cond.methodLink own index y).before args s = true) (hstat : (Cond.static y).before args s = true) (hinit : (Cond.initialized y.cls).before args s = true)
    (hcode : (Cond.codeWith y bytes maxL ret hh).before args s = true) (hy : y.cls ≠ "java/lang/invoke/MethodHandle" ∧ y.cls ≠ "java/lang/invoke/VarHandle")
    {W9 : Nat} {Pre : Pt → Array Value → Prop} {Post : Pt → Array Value → Option Value → Pt → Prop} {PostX : Pt → Array Value → Addr → Pt → Prop} (hK : vx_Back l R p e below s args y 3 W9 Pre Post PostX)
    {g : JFrame} (hg : g.method = m) (hsize : g.locals.size = c.maxLocals) {argsL rest : List Value} (hlen : ∀ sig, parseMethodDescriptor y.desc = some sig → argsL.length = sig.parameters.length)
    (hstack : g.stack = argsL.reverse ++ rest) (hW : 2 * g.monitorRoom + (rest.map fun v => v.category).sum ≤ W9) (hdg : decode c.code g.pc = .ok (.invokestatic index, 3))
    (hpre : ∀ vm₁, s.WarmedH vm₁ → Pre ⟨T.setVm vm₁, locs, cells, slots⟩ argsL.toArray) :
    (∃ (v : Option Value) (vm₁ : Vm) (B : Pt), s.WarmedH vm₁ ∧ Stand p l e R s m args below meth c B.U B.locs B.cells B.slots ∧ Post ⟨T.setVm vm₁, locs, cells, slots⟩ argsL.toArray v B ∧
      ∀ target, Steps p.tables e below (B.U.setTop { g with pc := g.pc + 3, stack := v.toList ++ rest }) target → Steps p.tables e below (T.setTop g) target) ∨
    (∃ (q : Addr) (vm₁ : Vm) (B : Pt), s.WarmedH vm₁ ∧ Stand p l e R s m args below meth c B.U B.locs B.cells B.slots ∧ PostX ⟨T.setVm vm₁, locs, cells, slots⟩ argsL.toArray q B ∧
      Steps p.tables e below (T.setTop g) ((B.U.setTop { g with stack := rest }).pushFrame (.throwing q))) := by
  obtain ⟨mk, methM, cM, hnamed, hmethM, -, -, -, -, -, -, hsigM⟩ := Cond.codeWith_spec hcode
  have hstatic : methM.isStatic = true := Cond.static_spec hnamed hmethM hstat
  obtain ⟨kP, hkP, -⟩ := className_of_methodNamed hnamed
  have hinitP : kP.init = .initialized := Cond.initialized_spec (findClass_of_methodNamed hnamed) hkP hinit
  obtain ⟨vm₁, X₁, hstep₁⟩ := X.invokestatic hexec hown hlink hnamed hmethM hstatic hkP hinitP hy (g := g) hg (argsL := argsL) (rest := rest) (hlen _ hsigM) hstack hdg
  rcases hK m meth c ⟨T.setVm vm₁, locs, cells, slots⟩ { g with stack := rest } (.invokestatic index) mk argsL.toArray X₁ hg hsize hdg hW (X₁.named hnamed) (hpre vm₁ X₁.warmed) with ⟨v, B, X', hpost, hsteps⟩ | ⟨q, B, X', hpost, hsteps⟩
  · exact Or.inl ⟨v, vm₁, B, X₁.warmed, X', hpost, fun target h => hstep₁ _ fun acts => by rw [doInvoke_state]; exact hsteps.trans h⟩
  · exact Or.inr ⟨q, vm₁, B, X₁.warmed, X', hpost, hstep₁ _ fun acts => by rw [doInvoke_state]; exact hsteps⟩
theorem vx_callVW (X : Stand p l e R s m args below meth c T locs cells slots) (hexec : p.tables.exec = Jvm.exec) {own C : String} {index : Nat} {y : MethodName} {bytes : ByteArray} {maxL : Nat} {ret : Option FieldType} {hh : List (Nat × Nat × Nat × Nat)}
    (hown : s.vm.findClass own = some m.cls) (hlink : (Cond.methodLink own index y).before args s = true) (hinst : (Cond.instanceMethod y).before args s = true) (hsel : (Cond.selects C y y).before args s = true)
    (hcode : (Cond.codeWith y bytes maxL ret hh).before args s = true) (hy : y.cls ≠ "java/lang/invoke/MethodHandle" ∧ y.cls ≠ "java/lang/invoke/VarHandle")
    {W9 : Nat} {Pre : Pt → Array Value → Prop} {Post : Pt → Array Value → Option Value → Pt → Prop} (hK : Back l R p e below s args y 3 W9 Pre Post)
    {b : Addr} {cellB : Cell} (hcell : T.heap[b]? = some cellB) (hobj : cellB.vm.isStatics = false) (hcls : s.vm.findClass C = some cellB.cls)
    {g : JFrame} (hg : g.method = m) (hsize : g.locals.size = c.maxLocals) {argsL rest : List Value} (hlen : ∀ sig, parseMethodDescriptor y.desc = some sig → argsL.length = sig.parameters.length)
    (hstack : g.stack = argsL.reverse ++ .ref b :: rest) (hW : 2 * g.monitorRoom + (rest.map fun v => v.category).sum ≤ W9) (hdg : decode c.code g.pc = .ok (.invokevirtual index, 3))
    (hpre : ∀ vm₁, s.WarmedH vm₁ → Pre ⟨T.setVm vm₁, locs, cells, slots⟩ (Value.ref b :: argsL).toArray) :
    ∃ (v : Option Value) (vm₁ : Vm) (B : Pt), s.WarmedH vm₁ ∧ Stand p l e R s m args below meth c B.U B.locs B.cells B.slots ∧ Post ⟨T.setVm vm₁, locs, cells, slots⟩ (Value.ref b :: argsL).toArray v B ∧
      ∀ target, Steps p.tables e below (B.U.setTop { g with pc := g.pc + 3, stack := v.toList ++ rest }) target → Steps p.tables e below (T.setTop g) target := by
  obtain ⟨mk, methM, hnamed, hmethM, hstM, habM⟩ := Cond.instanceMethod_spec hinst
  obtain ⟨m8, methM', cM, hn8, hmethM', -, -, -, -, -, -, hsigM⟩ := Cond.codeWith_spec hcode
  cases Option.some.inj (hn8.symm.trans hnamed)
  cases hmethM.symm.trans hmethM'
  obtain ⟨c2, r2, m2, q1, q2, q3, q4, kP, hkP, hkPi⟩ := Cond.selects_spec hsel
  cases hcls.symm.trans q1
  cases (State.methodFound?_of_named hnamed hy).symm.trans q2
  cases hnamed.symm.trans q3
  have hselP : selectMethod e.platform s.vm cellB.cls mk = .method mk := by rw [Launch.admits_selectMethod X.admits]; exact q4
  obtain ⟨vm₁, X₁, hstep₁⟩ := X.invokevirtual hexec hown hlink hnamed hmethM hstM hkP hkPi hy (a := b) (cell := cellB) hcell
    (fun z h => by rw [h] at hobj; cases hobj) hselP hmethM habM hkP hkPi (g := g) hg (argsL := argsL) (rest := rest) (hlen _ hsigM) hstack hdg
  obtain ⟨v, B, X', hpost, hsteps⟩ := hK m meth c ⟨T.setVm vm₁, locs, cells, slots⟩ { g with stack := rest } (.invokevirtual index) mk (Value.ref b :: argsL).toArray X₁ hg hsize hdg hW (X₁.named hnamed) (hpre vm₁ X₁.warmed)
  exact ⟨v, vm₁, B, X₁.warmed, X', hpost, fun target h => hstep₁ _ fun acts => by rw [doInvoke_state]; exact hsteps.trans h⟩
abbrev vx_CVW (R : Room) (s : State) (args : Array Value) (own C : String) (index : Nat) (y : MethodName) (bytes : ByteArray) (maxL : Nat) (ret : Option FieldType) (hh : List (Nat × Nat × Nat × Nat)) (ws : List Cond) (rm : Room) (mc ms n : Nat) : Prop :=
  (rm.cells = mc ∧ rm.slots = ms ∧ rm.frames + 1 ≤ R.frames ∧ 8 + (maxL + 11) + rm.locals ≤ R.locals ∧ (∀ w ∈ ws, ∀ (a' : Array Value) (U : State), s.WarmedH U.vm → w.before a' U = true) ∧ Cond.codeWith y bytes maxL ret hh ∈ ws) ∧
  (Cond.codeWith y bytes maxL ret hh).before args s = true ∧ (Cond.initialized y.cls).before args s = true ∧ (y.cls ≠ "java/lang/invoke/MethodHandle" ∧ y.cls ≠ "java/lang/invoke/VarHandle") ∧
  (∀ sig, parseMethodDescriptor y.desc = some sig → n = sig.parameters.length) ∧ (Cond.methodLink own index y).before args s = true ∧ (Cond.instanceMethod y).before args s = true ∧ (Cond.selects C y y).before args s = true
theorem vx_cwVW {own C : String} {index maxL mc ms : Nat} {y : MethodName} {bytes : ByteArray} {ret : Option FieldType} {hh : List (Nat × Nat × Nat × Nat)} {Ts ws ws' : List Cond} {rm : Room} (n : Nat) (ht : ∀ w ∈ Ts, w.before args s = true) (hT : GoodIn Ts (wsV own index C y ws)) (hw : ws = Cond.codeWith y bytes maxL ret hh :: ws') (hrc : rm.cells = mc) (hrs : rm.slots = ms)
    (hd : y.cls = C ∧ y.cls ≠ "java/lang/invoke/MethodHandle" ∧ y.cls ≠ "java/lang/invoke/VarHandle" ∧ (parseMethodDescriptor y.desc).map (fun d => d.parameters.length) = some n) (hR : rm.frames + 1 ≤ R.frames ∧ 8 + (maxL + 11) + rm.locals ≤ R.locals) :
    vx_CVW R s args own C index y bytes maxL ret hh ws rm mc ms n := by
  obtain ⟨hC, hd⟩ := hd
  subst hC
  have ok : ∀ w ∈ wsV own index y.cls y ws, w.before args s = true := fun w h => ht w (hT w h).1
  have hG : GoodIn Ts ws := fun w h => hT w (by unfold wsV; exact List.mem_append_right _ h)
  have hc : Cond.codeWith y bytes maxL ret hh ∈ ws := by rw [hw]; exact List.mem_cons_self
  refine ⟨⟨hrc, hrs, hR.1, hR.2, pay_in ht hG, hc⟩, ht _ (hG _ hc).1, ok _ (by simp [wsV]), ⟨hd.1, hd.2.1⟩, fun sig h => ?_, ok _ (by simp [wsV]), ok _ (by simp [wsV]), ok _ (by simp [wsV])⟩
  have h2 := hd.2.2
  rw [h] at h2
  exact (Option.some.inj h2).symm
theorem vx_runVW {y : MethodName} {bytes cc : ByteArray} {maxL nL mc ms n index : Nat} {ret : Option FieldType} {hh : List (Nat × Nat × Nat × Nat)} {ws : List Cond} {rm : Room} {Pc : Array Value → State → Prop} {Qc : Array Value → State → Outcome → State → Prop} {free : Addr → Prop} {Ts : List Cond} {own C : String} {b : Addr} {As rest : List Value} {g : JFrame}
    (S : CallFix p m c cc nL s args Ts own) (hM : Met l y ws rm Pc Qc mc ms free) (cw : vx_CVW R s args own C index y bytes maxL ret hh ws rm mc ms n) (hp : PreV s H C b Pc As)
    (hg : g.method = m) (hn : As.length = n) (hsize : g.locals.size = nL) (hstack : g.stack = As.reverse ++ .ref b :: rest) (hW : 2 * g.monitorRoom + (rest.map fun v => v.category).sum ≤ 8) (hdg : decode cc g.pc = .ok (.invokevirtual index, 3)) (hf : cells + mc ≤ R.cells ∧ slots + ms ≤ R.slots) :
    va_Run p l e R s m args below meth c H locs cells slots mc ms g rest (Qc (Value.ref b :: As).toArray) free := by
  obtain ⟨⟨hrc, hrs, hfr, hlo, hws, hcw⟩, hcode, hini, hy, hlen, hl, hin, hse⟩ := cw
  have hK : Back l R p e below s args y 3 8 (PreOf R mc ms Pc) (PostOf Qc mc ms free) := va_backW (hh := hh) (bytes := bytes) (maxL := maxL) (ret := ret) hM hp.1 hrc hrs hfr hlo hws hcw (fun a' U hW => word_at hW (Or.inl (by first | rfl | simp [Cond.onTables, Cond.keeps, Cond.steady])) hini)
  obtain ⟨hx, hb, hml, ho, -⟩ := S
  obtain ⟨-, ⟨cellB, hcB, hoB, hclB⟩, hPc⟩ := hp
  intro T hT X
  obtain ⟨v, vm₁, ⟨U', l2, c2, s2⟩, hW₁, X', ⟨g', mk, t, L, e1, e2, hq, h1, hL, h2, h3⟩, st⟩ := vx_callVW X hx (C := C) (hh := hh) (bytes := bytes) (maxL := maxL) (ret := ret) ho hl hin hse hcode hy hK (by rw [hT]; exact hcB) hoB hclB hg (hsize.trans hml.symm) (argsL := As) (rest := rest) (fun sig h => hn.trans (hlen sig h)) hstack hW (by rw [hb]; exact hdg)
    (fun vm₁ hW₁ => ⟨hf.1, hf.2, hPc (T.setVm vm₁) hT hW₁⟩)
  dsimp only [Pt.U, Pt.locs, Pt.cells, Pt.slots] at X' e1 e2 h1 h2 h3 st
  subst h1; subst h2; subst h3
  exact ⟨v, (T.setVm vm₁).calling g' mk (Value.ref b :: As).toArray, t, U', L, hT, X', hL, e1, e2, hq, st⟩
section
variable {y : MethodName} {bytes cc : ByteArray} {maxL nL mc ms n index : Nat} {ret : Option FieldType} {ws : List Cond} {rm : Room} {Pc : Array Value → State → Prop} {Qc : Array Value → State → Outcome → State → Prop} {XC : String → State → State → Prop} {free : Addr → Prop} {Ts : List Cond} {own C : String} {b : Addr} {As rest : List Value} {g : JFrame}
theorem vx_runVX {hh : List (Nat × Nat × Nat × Nat)} (S : CallFix p m c cc nL s args Ts own) (hM : vx_Met l y ws rm Pc Qc XC mc ms free) (cw : vx_CVW R s args own C index y bytes maxL ret hh ws rm mc ms n) (hp : PreV s H C b Pc As)
    (hg : g.method = m) (hn : As.length = n) (hsize : g.locals.size = nL) (hstack : g.stack = As.reverse ++ .ref b :: rest) (hW : 2 * g.monitorRoom + (rest.map fun v => v.category).sum ≤ 8) (hdg : decode cc g.pc = .ok (.invokevirtual index, 3)) (hf : cells + mc ≤ R.cells ∧ slots + ms ≤ R.slots) :
    vx_Run p l e R s m args below meth c H locs cells slots mc ms g rest (Qc (Value.ref b :: As).toArray) XC free := by
  obtain ⟨⟨hrc, hrs, hfr, hlo, hws, hcw⟩, hcode, hini, hy, hlen, hl, hin, hse⟩ := cw
  have hK : vx_Back l R p e below s args y 3 8 (PreOf R mc ms Pc) (PostOf Qc mc ms free) (vx_Post XC mc ms free) := vx_backW (hh := hh) (bytes := bytes) (maxL := maxL) (ret := ret) hM hp.1 hrc hrs hfr hlo hws hcw (fun a' U hW => word_at hW (Or.inl (by first | rfl | simp [Cond.onTables, Cond.keeps, Cond.steady])) hini)
  obtain ⟨hx, hb, hml, ho, -⟩ := S
  obtain ⟨-, ⟨cellB, hcB, hoB, hclB⟩, hPc⟩ := hp
  intro T hT X
  rcases vx_callVX X hx (C := C) (hh := hh) (bytes := bytes) (maxL := maxL) (ret := ret) ho hl hin hse hcode hy hK (by rw [hT]; exact hcB) hoB hclB hg (hsize.trans hml.symm) (argsL := As) (rest := rest) (fun sig h => hn.trans (hlen sig h)) hstack hW (by rw [hb]; exact hdg)
    (fun vm₁ hW₁ => ⟨hf.1, hf.2, hPc (T.setVm vm₁) hT hW₁⟩) with ⟨v, vm₁, ⟨U', l2, c2, s2⟩, hW₁, X', ⟨g', mk, t, L, e1, e2, hq, h1, hL, h2, h3⟩, st⟩ | ⟨q, vm₁, ⟨U', l2, c2, s2⟩, hW₁, X', ⟨g', mk, t, L, E, ce, e1, e2, hq, hce, hcv, hcl, h1, hL, h2, h3⟩, st⟩
  · dsimp only [Pt.U, Pt.locs, Pt.cells, Pt.slots] at X' e1 e2 h1 h2 h3 st
    subst h1; subst h2; subst h3
    exact Or.inl ⟨v, (T.setVm vm₁).calling g' mk (Value.ref b :: As).toArray, t, U', L, hT, X', hL, e1, e2, hq, st⟩
  · dsimp only [Pt.U, Pt.locs, Pt.cells, Pt.slots] at X' e1 e2 h1 h2 h3 st hcl
    subst h1; subst h2; subst h3
    exact Or.inr ⟨q, (T.setVm vm₁).calling g' mk (Value.ref b :: As).toArray, t, U', L, E, ce, hT, X', hL, e1, e2, hq, hce, hcv, vx_cls hW₁ hcl, st⟩
theorem vx_runSX {hh : List (Nat × Nat × Nat × Nat)} (S : CallFix p m c cc nL s args Ts own) (hM : vx_Met l y ws rm Pc Qc XC mc ms free) (cw : vx_CSW R s args own index y bytes maxL ret hh ws rm mc ms n) (hp : PreS s H Pc As)
    (hg : g.method = m) (hn : As.length = n) (hsize : g.locals.size = nL) (hstack : g.stack = As.reverse ++ rest) (hW : 2 * g.monitorRoom + (rest.map fun v => v.category).sum ≤ 8) (hdg : decode cc g.pc = .ok (.invokestatic index, 3)) (hf : cells + mc ≤ R.cells ∧ slots + ms ≤ R.slots) :
    vx_Run p l e R s m args below meth c H locs cells slots mc ms g rest (Qc As.toArray) XC free := by
  obtain ⟨⟨hrc, hrs, hfr, hlo, hws, hcw⟩, hcode, hini, hy, hlen, hl, hstt⟩ := cw
  have hK : vx_Back l R p e below s args y 3 8 (PreOf R mc ms Pc) (PostOf Qc mc ms free) (vx_Post XC mc ms free) := vx_backW (hh := hh) (bytes := bytes) (maxL := maxL) (ret := ret) hM hp.1 hrc hrs hfr hlo hws hcw (fun a' U hW => word_at hW (Or.inl (by first | rfl | simp [Cond.onTables, Cond.keeps, Cond.steady])) hini)
  obtain ⟨hx, hb, hml, ho, -⟩ := S
  intro T hT X
  rcases vx_callSX X hx (hh := hh) (bytes := bytes) (maxL := maxL) (ret := ret) ho hl hstt hini hcode hy hK hg (hsize.trans hml.symm) (argsL := As) (rest := rest) (fun sig h => hn.trans (hlen sig h)) hstack hW (by rw [hb]; exact hdg)
    (fun vm₁ hW₁ => ⟨hf.1, hf.2, hp.2 (T.setVm vm₁) hT hW₁⟩) with ⟨v, vm₁, ⟨U', l2, c2, s2⟩, hW₁, X', ⟨g', mk, t, L, e1, e2, hq, h1, hL, h2, h3⟩, st⟩ | ⟨q, vm₁, ⟨U', l2, c2, s2⟩, hW₁, X', ⟨g', mk, t, L, E, ce, e1, e2, hq, hce, hcv, hcl, h1, hL, h2, h3⟩, st⟩
  · dsimp only [Pt.U, Pt.locs, Pt.cells, Pt.slots] at X' e1 e2 h1 h2 h3 st
    subst h1; subst h2; subst h3
    exact Or.inl ⟨v, (T.setVm vm₁).calling g' mk As.toArray, t, U', L, hT, X', hL, e1, e2, hq, st⟩
  · dsimp only [Pt.U, Pt.locs, Pt.cells, Pt.slots] at X' e1 e2 h1 h2 h3 st hcl
    subst h1; subst h2; subst h3
    exact Or.inr ⟨q, (T.setVm vm₁).calling g' mk As.toArray, t, U', L, E, ce, hT, X', hL, e1, e2, hq, hce, hcv, vx_cls hW₁ hcl, st⟩
end
end VXH
theorem vx_ofWH {l : Launch} {y : MethodName} {ws ws' : List Cond} {rm : Room} {Pc : Array Value → State → Prop} {Qc : Array Value → State → Outcome → State → Prop} {XC : String → State → State → Prop} {mc ms : Nat} {free : Addr → Prop} {cc : ByteArray} {maxL : Nat} {ret : Option FieldType} {hh : List (Nat × Nat × Nat × Nat)}
    (hy : plainName y.cls = true) (hw : ws = Cond.codeWith y cc maxL ret hh :: ws')
    (body : ∀ p e s m args below meth c s₁, BodyLoose p l y (headSpec ws rm) cc maxL ret e s m args below meth c s₁ → c.maxLocals = maxL → Pc args s →
      W p l e (headSpec ws rm).room s m args below meth c s.heap [] 0 0 (vx_MQ below Qc XC args s mc ms free) (entryFrame m args maxL)) : vx_Met l y ws rm Pc Qc XC mc ms free := by
  refine MetFree.of_bodyS (code := cc) (maxLocals := maxL) (ret := ret) hy ?_ ?_
  · intro args s m h hn
    obtain ⟨m9, meth, c, hn9, h1, h2, h3, h4, -, h5, h6, -⟩ := Cond.codeWith_spec (atoms_spec (ws := ws) h _ (by rw [hw]; exact List.mem_cons_self))
    cases hn.symm.trans hn9
    exact ⟨meth, c, h1, h2, h3, h4, h5, h6⟩
  · intro p e s m args below meth c s₁ B hml hP _
    have hh0 : s₁.heap = s.heap := by rw [B.state]; rfl
    obtain ⟨t, a1, o, b1, b2, b3⟩ := body p e s m args below meth c s₁ B hml hP s₁ hh0 (Stand.of_body B)
    exact ⟨t, o, a1, b1, b2, b3⟩
/-! ===== END ===== -/
end
section
/-! ===== BEGIN printed: names, fields, word lists, decode rows ===== -/
def RX0 : String := "TextParts$Alphabet"
def TX0 : u_T := fun k => match k with
  | _ => ("", "", "", false)
def tyX0 : Nat → FieldType := fun k => match k with
  | _ => .int
abbrev wsX00 : List Cond := u_ws RX0 TX0 0
theorem nmX0 : ∀ a, a < 0 → ∀ b, b < 0 → a ≠ b → (TX0 a).2.1 ≠ (TX0 b).2.1 := by decide +kernel
theorem tyX0_ok : ∀ k, k < 0 → parseFieldDescriptor (TX0 k).2.2.1 = some (tyX0 k) := by decide +kernel
abbrev cX0_sevensFor : ByteArray := prog_2_method_2_code
def yX0_sevensFor : MethodName := ⟨RX0, "sevensFor", "(I)I"⟩
abbrev cX0_plainSeven : ByteArray := prog_2_method_3_code
def yX0_plainSeven : MethodName := ⟨RX0, "plainSeven", "(I)I"⟩
abbrev cX0_escapedSeven : ByteArray := prog_2_method_4_code
def yX0_escapedSeven : MethodName := ⟨RX0, "escapedSeven", "(I)I"⟩
abbrev cX0_plainUnit : ByteArray := prog_2_method_5_code
def yX0_plainUnit : MethodName := ⟨RX0, "plainUnit", "(I)I"⟩
abbrev cX0_escapedUnit : ByteArray := prog_2_method_6_code
def yX0_escapedUnit : MethodName := ⟨RX0, "escapedUnit", "(I)I"⟩
abbrev cX0_isItsOwnSeven : ByteArray := prog_2_method_7_code
def yX0_isItsOwnSeven : MethodName := ⟨RX0, "isItsOwnSeven", "(I)Z"⟩
abbrev cX0_partner : ByteArray := prog_2_method_8_code
def yX0_partner : MethodName := ⟨RX0, "partner", "([I[II)I"⟩
def RX1 : String := "TextParts$Heap"
def TX1 : u_T := fun k => match k with
  | 0 => ("TextParts$Heap", "sender", "I", true)
  | 1 => ("TextParts$Heap", "reference", "I", true)
  | 2 => ("TextParts$Heap", "pieces", "[LTextParts$Piece;", true)
  | 3 => ("TextParts$Heap", "there", "I", false)
  | 4 => ("TextParts$Heap", "unitCount", "I", false)
  | _ => ("TextParts$Heap", "lastPut", "I", false)
def tyX1 : Nat → FieldType := fun k => match k with
  | 0 => .int
  | 1 => .int
  | 2 => .array (.object "TextParts$Piece")
  | 3 => .int
  | 4 => .int
  | _ => .int
abbrev wsX10 : List Cond := u_ws RX1 TX1 6
theorem nmX1 : ∀ a, a < 6 → ∀ b, b < 6 → a ≠ b → (TX1 a).2.1 ≠ (TX1 b).2.1 := by decide +kernel
theorem tyX1_ok : ∀ k, k < 6 → parseFieldDescriptor (TX1 k).2.2.1 = some (tyX1 k) := by decide +kernel
abbrev cX1_init : ByteArray := prog_3_method_1_code
def yX1_init : MethodName := ⟨RX1, "<init>", "(III)V"⟩
abbrev cX1_isOf : ByteArray := prog_3_method_2_code
def yX1_isOf : MethodName := ⟨RX1, "isOf", "(III)Z"⟩
abbrev cX1_isWhole : ByteArray := prog_3_method_3_code
def yX1_isWhole : MethodName := ⟨RX1, "isWhole", "()Z"⟩
abbrev cX1_add : ByteArray := prog_3_method_4_code
def yX1_add : MethodName := ⟨RX1, "add", "(I[I)Z"⟩
abbrev cX1_unitAt : ByteArray := prog_3_method_5_code
def yX1_unitAt : MethodName := ⟨RX1, "unitAt", "(I)I"⟩
abbrev cX1_tell : ByteArray := prog_3_method_6_code
def yX1_tell : MethodName := ⟨RX1, "tell", "(I)I"⟩
def RX2 : String := "TextParts$Inbox"
def TX2 : u_T := fun k => match k with
  | 0 => ("TextParts$Inbox", "reader", "LTextParts$PartReader;", true)
  | 1 => ("TextParts$Inbox", "heaps", "[LTextParts$Heap;", true)
  | 2 => ("TextParts$Inbox", "heapCount", "I", false)
  | 3 => ("TextParts$Inbox", "puts", "I", false)
  | _ => ("TextParts$Inbox", "latest", "LTextParts$Heap;", false)
def tyX2 : Nat → FieldType := fun k => match k with
  | 0 => .object "TextParts$PartReader"
  | 1 => .array (.object "TextParts$Heap")
  | 2 => .int
  | 3 => .int
  | _ => .object "TextParts$Heap"
abbrev wsX20 : List Cond := u_ws RX2 TX2 5
theorem nmX2 : ∀ a, a < 5 → ∀ b, b < 5 → a ≠ b → (TX2 a).2.1 ≠ (TX2 b).2.1 := by decide +kernel
theorem tyX2_ok : ∀ k, k < 5 → parseFieldDescriptor (TX2 k).2.2.1 = some (tyX2 k) := by decide +kernel
abbrev cX2_init : ByteArray := prog_4_method_1_code
def yX2_init : MethodName := ⟨RX2, "<init>", "()V"⟩
abbrev cX2_accept : ByteArray := prog_4_method_2_code
def yX2_accept : MethodName := ⟨RX2, "accept", "(ILTextParts$Row;)I"⟩
abbrev cX2_latestUnits : ByteArray := prog_4_method_3_code
def yX2_latestUnits : MethodName := ⟨RX2, "latestUnits", "()I"⟩
abbrev cX2_latestUnit : ByteArray := prog_4_method_4_code
def yX2_latestUnit : MethodName := ⟨RX2, "latestUnit", "(I)I"⟩
abbrev cX2_aboutHeap : ByteArray := prog_4_method_5_code
def yX2_aboutHeap : MethodName := ⟨RX2, "aboutHeap", "(II)I"⟩
abbrev cX2_dropSender : ByteArray := prog_4_method_6_code
def yX2_dropSender : MethodName := ⟨RX2, "dropSender", "(I)I"⟩
abbrev cX2_keep : ByteArray := prog_4_method_7_code
def yX2_keep : MethodName := ⟨RX2, "keep", "(I[I)Z"⟩
abbrev cX2_placeOf : ByteArray := prog_4_method_8_code
def yX2_placeOf : MethodName := ⟨RX2, "placeOf", "(I)I"⟩
abbrev cX2_begin : ByteArray := prog_4_method_9_code
def yX2_begin : MethodName := ⟨RX2, "begin", "(I)I"⟩
abbrev cX2_longestUntouched : ByteArray := prog_4_method_10_code
def yX2_longestUntouched : MethodName := ⟨RX2, "longestUntouched", "()I"⟩
abbrev cX2_removeHeap : ByteArray := prog_4_method_11_code
def yX2_removeHeap : MethodName := ⟨RX2, "removeHeap", "(I)V"⟩
def RX3 : String := "TextParts$Message"
def TX3 : u_T := fun k => match k with
  | 0 => ("TextParts$Message", "rows", "[LTextParts$Row;", true)
  | _ => ("TextParts$Message", "partCount", "I", false)
def tyX3 : Nat → FieldType := fun k => match k with
  | 0 => .array (.object "TextParts$Row")
  | _ => .int
abbrev wsX30 : List Cond := u_ws RX3 TX3 2
theorem nmX3 : ∀ a, a < 2 → ∀ b, b < 2 → a ≠ b → (TX3 a).2.1 ≠ (TX3 b).2.1 := by decide +kernel
theorem tyX3_ok : ∀ k, k < 2 → parseFieldDescriptor (TX3 k).2.2.1 = some (tyX3 k) := by decide +kernel
abbrev cX3_init : ByteArray := prog_5_method_1_code
def yX3_init : MethodName := ⟨RX3, "<init>", "()V"⟩
abbrev cX3_rowOf : ByteArray := prog_5_method_2_code
def yX3_rowOf : MethodName := ⟨RX3, "rowOf", "(I)LTextParts$Row;"⟩
abbrev cX3_build : ByteArray := prog_5_method_3_code
def yX3_build : MethodName := ⟨RX3, "build", "(LTextParts$Text;II)V"⟩
abbrev cX3_writeSevens : ByteArray := prog_5_method_4_code
def yX3_writeSevens : MethodName := ⟨RX3, "writeSevens", "(LTextParts$Row;LTextParts$Text;IIZ)V"⟩
abbrev cX3_writePairs : ByteArray := prog_5_method_5_code
def yX3_writePairs : MethodName := ⟨RX3, "writePairs", "(LTextParts$Row;LTextParts$Text;IIZ)V"⟩
abbrev cX3_writeHeader : ByteArray := prog_5_method_6_code
def yX3_writeHeader : MethodName := ⟨RX3, "writeHeader", "(LTextParts$Row;III)V"⟩
def RX4 : String := "TextParts$PartReader"
def TX4 : u_T := fun k => match k with
  | 0 => ("TextParts$PartReader", "headed", "Z", false)
  | 1 => ("TextParts$PartReader", "reference", "I", false)
  | 2 => ("TextParts$PartReader", "parts", "I", false)
  | 3 => ("TextParts$PartReader", "number", "I", false)
  | 4 => ("TextParts$PartReader", "byPairs", "Z", false)
  | 5 => ("TextParts$PartReader", "held", "I", false)
  | _ => ("TextParts$PartReader", "units", "[I", true)
def tyX4 : Nat → FieldType := fun k => match k with
  | 0 => .boolean
  | 1 => .int
  | 2 => .int
  | 3 => .int
  | 4 => .boolean
  | 5 => .int
  | _ => .array .int
abbrev wsX40 : List Cond := u_ws RX4 TX4 7
theorem nmX4 : ∀ a, a < 7 → ∀ b, b < 7 → a ≠ b → (TX4 a).2.1 ≠ (TX4 b).2.1 := by decide +kernel
theorem tyX4_ok : ∀ k, k < 7 → parseFieldDescriptor (TX4 k).2.2.1 = some (tyX4 k) := by decide +kernel
abbrev cX4_init : ByteArray := prog_6_method_1_code
def yX4_init : MethodName := ⟨RX4, "<init>", "()V"⟩
abbrev cX4_faultOf : ByteArray := prog_6_method_2_code
def yX4_faultOf : MethodName := ⟨RX4, "faultOf", "(LTextParts$Row;)I"⟩
abbrev cX4_unitsOf : ByteArray := prog_6_method_3_code
def yX4_unitsOf : MethodName := ⟨RX4, "unitsOf", "(LTextParts$Row;)[I"⟩
abbrev cX4_isWrongSize : ByteArray := prog_6_method_4_code
def yX4_isWrongSize : MethodName := ⟨RX4, "isWrongSize", "(I)Z"⟩
abbrev cX4_isWrongHeader : ByteArray := prog_6_method_5_code
def yX4_isWrongHeader : MethodName := ⟨RX4, "isWrongHeader", "(LTextParts$Row;)Z"⟩
abbrev cX4_hasStrayBits : ByteArray := prog_6_method_6_code
def yX4_hasStrayBits : MethodName := ⟨RX4, "hasStrayBits", "(LTextParts$Row;)Z"⟩
abbrev cX4_collectPairs : ByteArray := prog_6_method_7_code
def yX4_collectPairs : MethodName := ⟨RX4, "collectPairs", "(LTextParts$Row;)I"⟩
abbrev cX4_collectSevens : ByteArray := prog_6_method_8_code
def yX4_collectSevens : MethodName := ⟨RX4, "collectSevens", "(LTextParts$Row;)I"⟩
def RX5 : String := "TextParts$Piece"
def TX5 : u_T := fun k => match k with
  | _ => ("TextParts$Piece", "units", "[I", true)
def tyX5 : Nat → FieldType := fun k => match k with
  | _ => .array .int
abbrev wsX50 : List Cond := u_ws RX5 TX5 1
theorem nmX5 : ∀ a, a < 1 → ∀ b, b < 1 → a ≠ b → (TX5 a).2.1 ≠ (TX5 b).2.1 := by decide +kernel
theorem tyX5_ok : ∀ k, k < 1 → parseFieldDescriptor (TX5 k).2.2.1 = some (tyX5 k) := by decide +kernel
abbrev cX5_init : ByteArray := prog_7_method_1_code
def yX5_init : MethodName := ⟨RX5, "<init>", "([I)V"⟩
def RX6 : String := "TextParts$Row"
def TX6 : u_T := fun k => match k with
  | 0 => ("TextParts$Row", "bytes", "[I", true)
  | _ => ("TextParts$Row", "size", "I", false)
def tyX6 : Nat → FieldType := fun k => match k with
  | 0 => .array .int
  | _ => .int
abbrev wsX60 : List Cond := u_ws RX6 TX6 2
theorem nmX6 : ∀ a, a < 2 → ∀ b, b < 2 → a ≠ b → (TX6 a).2.1 ≠ (TX6 b).2.1 := by decide +kernel
theorem tyX6_ok : ∀ k, k < 2 → parseFieldDescriptor (TX6 k).2.2.1 = some (tyX6 k) := by decide +kernel
abbrev cX6_init : ByteArray := prog_8_method_1_code
def yX6_init : MethodName := ⟨RX6, "<init>", "(I)V"⟩
abbrev cX6_restart : ByteArray := prog_8_method_2_code
def yX6_restart : MethodName := ⟨RX6, "restart", "(I)V"⟩
abbrev cX6_append : ByteArray := prog_8_method_3_code
def yX6_append : MethodName := ⟨RX6, "append", "(I)V"⟩
abbrev cX6_byteAt : ByteArray := prog_8_method_4_code
def yX6_byteAt : MethodName := ⟨RX6, "byteAt", "(I)I"⟩
abbrev cX6_setByte : ByteArray := prog_8_method_5_code
def yX6_setByte : MethodName := ⟨RX6, "setByte", "(II)V"⟩
abbrev cX6_sevenAt : ByteArray := prog_8_method_6_code
def yX6_sevenAt : MethodName := ⟨RX6, "sevenAt", "(I)I"⟩
abbrev cX6_addSeven : ByteArray := prog_8_method_7_code
def yX6_addSeven : MethodName := ⟨RX6, "addSeven", "(II)V"⟩
abbrev cX6_isBitSet : ByteArray := prog_8_method_8_code
def yX6_isBitSet : MethodName := ⟨RX6, "isBitSet", "(I)Z"⟩
abbrev cX6_byteOrZero : ByteArray := prog_8_method_9_code
def yX6_byteOrZero : MethodName := ⟨RX6, "byteOrZero", "(I)I"⟩
def RX7 : String := "TextParts$Text"
def TX7 : u_T := fun k => match k with
  | 0 => ("TextParts$Text", "units", "[I", true)
  | 1 => ("TextParts$Text", "count", "I", false)
  | 2 => ("TextParts$Text", "sevens", "I", false)
  | _ => ("TextParts$Text", "outsiders", "I", false)
def tyX7 : Nat → FieldType := fun k => match k with
  | 0 => .array .int
  | 1 => .int
  | 2 => .int
  | _ => .int
abbrev wsX70 : List Cond := u_ws RX7 TX7 4
theorem nmX7 : ∀ a, a < 4 → ∀ b, b < 4 → a ≠ b → (TX7 a).2.1 ≠ (TX7 b).2.1 := by decide +kernel
theorem tyX7_ok : ∀ k, k < 4 → parseFieldDescriptor (TX7 k).2.2.1 = some (tyX7 k) := by decide +kernel
abbrev cX7_init : ByteArray := prog_9_method_1_code
def yX7_init : MethodName := ⟨RX7, "<init>", "()V"⟩
abbrev cX7_append : ByteArray := prog_9_method_2_code
def yX7_append : MethodName := ⟨RX7, "append", "(I)V"⟩
abbrev cX7_empty : ByteArray := prog_9_method_3_code
def yX7_empty : MethodName := ⟨RX7, "empty", "()V"⟩
abbrev cX7_inAlphabet : ByteArray := prog_9_method_4_code
def yX7_inAlphabet : MethodName := ⟨RX7, "inAlphabet", "()Z"⟩
abbrev cX7_partCount : ByteArray := prog_9_method_5_code
def yX7_partCount : MethodName := ⟨RX7, "partCount", "()I"⟩
abbrev cX7_partEnd : ByteArray := prog_9_method_6_code
def yX7_partEnd : MethodName := ⟨RX7, "partEnd", "(I)I"⟩
abbrev cX7_sevensBetween : ByteArray := prog_9_method_7_code
def yX7_sevensBetween : MethodName := ⟨RX7, "sevensBetween", "(II)I"⟩
abbrev cX7_unitAt : ByteArray := prog_9_method_8_code
def yX7_unitAt : MethodName := ⟨RX7, "unitAt", "(I)I"⟩
abbrev cX7_fitsAlone : ByteArray := prog_9_method_9_code
def yX7_fitsAlone : MethodName := ⟨RX7, "fitsAlone", "()Z"⟩
abbrev cX7_sevensEnd : ByteArray := prog_9_method_10_code
def yX7_sevensEnd : MethodName := ⟨RX7, "sevensEnd", "(I)I"⟩
abbrev cX7_pairsEnd : ByteArray := prog_9_method_11_code
def yX7_pairsEnd : MethodName := ⟨RX7, "pairsEnd", "(I)I"⟩
abbrev cX7_isHigh : ByteArray := prog_9_method_12_code
def yX7_isHigh : MethodName := ⟨RX7, "isHigh", "(I)Z"⟩
abbrev cX7_isLow : ByteArray := prog_9_method_13_code
def yX7_isLow : MethodName := ⟨RX7, "isLow", "(I)Z"⟩
def RX8 : String := "TextParts"
def TX8 : u_T := fun k => match k with
  | 0 => ("TextParts", "text", "LTextParts$Text;", true)
  | 1 => ("TextParts", "made", "LTextParts$Message;", true)
  | 2 => ("TextParts", "atHand", "LTextParts$Row;", true)
  | 3 => ("TextParts", "inbox", "LTextParts$Inbox;", true)
  | _ => ("TextParts", "nextReference", "I", false)
def tyX8 : Nat → FieldType := fun k => match k with
  | 0 => .object "TextParts$Text"
  | 1 => .object "TextParts$Message"
  | 2 => .object "TextParts$Row"
  | 3 => .object "TextParts$Inbox"
  | _ => .int
abbrev wsX80 : List Cond := u_ws RX8 TX8 5
theorem nmX8 : ∀ a, a < 5 → ∀ b, b < 5 → a ≠ b → (TX8 a).2.1 ≠ (TX8 b).2.1 := by decide +kernel
theorem tyX8_ok : ∀ k, k < 5 → parseFieldDescriptor (TX8 k).2.2.1 = some (tyX8 k) := by decide +kernel
abbrev cX8_init : ByteArray := prog_1_method_1_code
def yX8_init : MethodName := ⟨RX8, "<init>", "()V"⟩
abbrev cX8_put : ByteArray := prog_1_method_2_code
def yX8_put : MethodName := ⟨RX8, "put", "(I)I"⟩
abbrev cX8_clear : ByteArray := prog_1_method_3_code
def yX8_clear : MethodName := ⟨RX8, "clear", "()I"⟩
abbrev cX8_about : ByteArray := prog_1_method_4_code
def yX8_about : MethodName := ⟨RX8, "about", "(I)I"⟩
abbrev cX8_make : ByteArray := prog_1_method_5_code
def yX8_make : MethodName := ⟨RX8, "make", "()I"⟩
abbrev cX8_length : ByteArray := prog_1_method_6_code
def yX8_length : MethodName := ⟨RX8, "length", "(I)I"⟩
abbrev cX8_byteOf : ByteArray := prog_1_method_7_code
def yX8_byteOf : MethodName := ⟨RX8, "byteOf", "(II)I"⟩
abbrev cX8_take : ByteArray := prog_1_method_8_code
def yX8_take : MethodName := ⟨RX8, "take", "(II)I"⟩
abbrev cX8_alter : ByteArray := prog_1_method_9_code
def yX8_alter : MethodName := ⟨RX8, "alter", "(III)I"⟩
abbrev cX8_feed : ByteArray := prog_1_method_10_code
def yX8_feed : MethodName := ⟨RX8, "feed", "(JI)I"⟩
abbrev cX8_read : ByteArray := prog_1_method_11_code
def yX8_read : MethodName := ⟨RX8, "read", "(I)I"⟩
abbrev cX8_unit : ByteArray := prog_1_method_12_code
def yX8_unit : MethodName := ⟨RX8, "unit", "(I)I"⟩
abbrev cX8_heap : ByteArray := prog_1_method_13_code
def yX8_heap : MethodName := ⟨RX8, "heap", "(II)I"⟩
abbrev cX8_forget : ByteArray := prog_1_method_14_code
def yX8_forget : MethodName := ⟨RX8, "forget", "(I)I"⟩
abbrev cX8_isSender : ByteArray := prog_1_method_15_code
def yX8_isSender : MethodName := ⟨RX8, "isSender", "(I)Z"⟩
abbrev cX8_bytesForSevens : ByteArray := prog_1_method_16_code
def yX8_bytesForSevens : MethodName := ⟨RX8, "bytesForSevens", "(I)I"⟩
def RX9 : String := "TextPartsModel"
def TX9 : u_T := fun k => match k with
  | 0 => ("TextPartsModel", "code", "I", false)
  | 1 => ("TextPartsModel", "plain", "[I", true)
  | 2 => ("TextPartsModel", "escaped", "[I", true)
  | 3 => ("TextPartsModel", "count", "I", false)
  | 4 => ("TextPartsModel", "text", "[I", true)
  | 5 => ("TextPartsModel", "reference", "I", false)
  | 6 => ("TextPartsModel", "made", "I", false)
  | 7 => ("TextPartsModel", "lengths", "[I", true)
  | 8 => ("TextPartsModel", "bytes", "[I", true)
  | 9 => ("TextPartsModel", "atHand", "I", false)
  | 10 => ("TextPartsModel", "hand", "[I", true)
  | 11 => ("TextPartsModel", "latestCount", "I", false)
  | 12 => ("TextPartsModel", "latest", "[I", true)
  | 13 => ("TextPartsModel", "heaps", "I", false)
  | 14 => ("TextPartsModel", "heapPlace", "[I", true)
  | 15 => ("TextPartsModel", "heapSender", "[I", true)
  | 16 => ("TextPartsModel", "heapReference", "[I", true)
  | 17 => ("TextPartsModel", "heapParts", "[I", true)
  | 18 => ("TextPartsModel", "heapThere", "[I", true)
  | 19 => ("TextPartsModel", "heapStamp", "[I", true)
  | 20 => ("TextPartsModel", "stamps", "I", false)
  | 21 => ("TextPartsModel", "partCount", "[I", true)
  | 22 => ("TextPartsModel", "partUnits", "[I", true)
  | 23 => ("TextPartsModel", "given", "I", false)
  | 24 => ("TextPartsModel", "part", "[I", true)
  | 25 => ("TextPartsModel", "units", "I", false)
  | _ => ("TextPartsModel", "unit", "[I", true)
def tyX9 : Nat → FieldType := fun k => match k with
  | 0 => .int
  | 1 => .array .int
  | 2 => .array .int
  | 3 => .int
  | 4 => .array .int
  | 5 => .int
  | 6 => .int
  | 7 => .array .int
  | 8 => .array .int
  | 9 => .int
  | 10 => .array .int
  | 11 => .int
  | 12 => .array .int
  | 13 => .int
  | 14 => .array .int
  | 15 => .array .int
  | 16 => .array .int
  | 17 => .array .int
  | 18 => .array .int
  | 19 => .array .int
  | 20 => .int
  | 21 => .array .int
  | 22 => .array .int
  | 23 => .int
  | 24 => .array .int
  | 25 => .int
  | _ => .array .int
abbrev wsX90 : List Cond := u_ws RX9 TX9 27
theorem nmX9 : ∀ a, a < 27 → ∀ b, b < 27 → a ≠ b → (TX9 a).2.1 ≠ (TX9 b).2.1 := by decide +kernel
theorem tyX9_ok : ∀ k, k < 27 → parseFieldDescriptor (TX9 k).2.2.1 = some (tyX9 k) := by decide +kernel
abbrev cX9_init : ByteArray := prog_11_method_1_code
def yX9_init : MethodName := ⟨RX9, "<init>", "()V"⟩
abbrev cX9_thrown : ByteArray := prog_11_method_2_code
def yX9_thrown : MethodName := ⟨RX9, "thrown", "()I"⟩
abbrev cX9_refuses : ByteArray := prog_11_method_3_code
def yX9_refuses : MethodName := ⟨RX9, "refuses", "(I)Z"⟩
abbrev cX9_sevenOf : ByteArray := prog_11_method_4_code
def yX9_sevenOf : MethodName := ⟨RX9, "sevenOf", "(I)I"⟩
abbrev cX9_put : ByteArray := prog_11_method_5_code
def yX9_put : MethodName := ⟨RX9, "put", "(I)I"⟩
abbrev cX9_clear : ByteArray := prog_11_method_6_code
def yX9_clear : MethodName := ⟨RX9, "clear", "()I"⟩
abbrev cX9_sevens : ByteArray := prog_11_method_7_code
def yX9_sevens : MethodName := ⟨RX9, "sevens", "()I"⟩
abbrev cX9_isFirst : ByteArray := prog_11_method_8_code
def yX9_isFirst : MethodName := ⟨RX9, "isFirst", "(I)Z"⟩
abbrev cX9_isSecond : ByteArray := prog_11_method_9_code
def yX9_isSecond : MethodName := ⟨RX9, "isSecond", "(I)Z"⟩
abbrev cX9_fitting : ByteArray := prog_11_method_10_code
def yX9_fitting : MethodName := ⟨RX9, "fitting", "(IZ)I"⟩
abbrev cX9_partsOf : ByteArray := prog_11_method_11_code
def yX9_partsOf : MethodName := ⟨RX9, "partsOf", "(I)I"⟩
abbrev cX9_about : ByteArray := prog_11_method_12_code
def yX9_about : MethodName := ⟨RX9, "about", "(I)I"⟩
abbrev cX9_puts : ByteArray := prog_11_method_13_code
def yX9_puts : MethodName := ⟨RX9, "puts", "(III)V"⟩
abbrev cX9_part : ByteArray := prog_11_method_14_code
def yX9_part : MethodName := ⟨RX9, "part", "(IIIZI)V"⟩
abbrev cX9_make : ByteArray := prog_11_method_15_code
def yX9_make : MethodName := ⟨RX9, "make", "()I"⟩
abbrev cX9_length : ByteArray := prog_11_method_16_code
def yX9_length : MethodName := ⟨RX9, "length", "(I)I"⟩
abbrev cX9_byteOf : ByteArray := prog_11_method_17_code
def yX9_byteOf : MethodName := ⟨RX9, "byteOf", "(II)I"⟩
abbrev cX9_alter : ByteArray := prog_11_method_18_code
def yX9_alter : MethodName := ⟨RX9, "alter", "(III)I"⟩
abbrev cX9_bit : ByteArray := prog_11_method_19_code
def yX9_bit : MethodName := ⟨RX9, "bit", "(I)I"⟩
abbrev cX9_seven : ByteArray := prog_11_method_20_code
def yX9_seven : MethodName := ⟨RX9, "seven", "(I)I"⟩
abbrev cX9_fault : ByteArray := prog_11_method_21_code
def yX9_fault : MethodName := ⟨RX9, "fault", "()I"⟩
abbrev cX9_alone : ByteArray := prog_11_method_22_code
def yX9_alone : MethodName := ⟨RX9, "alone", "(I)I"⟩
abbrev cX9_gone : ByteArray := prog_11_method_23_code
def yX9_gone : MethodName := ⟨RX9, "gone", "(I)V"⟩
abbrev cX9_begin : ByteArray := prog_11_method_24_code
def yX9_begin : MethodName := ⟨RX9, "begin", "(III)I"⟩
abbrev cX9_reads : ByteArray := prog_11_method_25_code
def yX9_reads : MethodName := ⟨RX9, "reads", "(I)I"⟩
abbrev cX9_take : ByteArray := prog_11_method_26_code
def yX9_take : MethodName := ⟨RX9, "take", "(II)I"⟩
abbrev cX9_feed : ByteArray := prog_11_method_27_code
def yX9_feed : MethodName := ⟨RX9, "feed", "(JI)I"⟩
abbrev cX9_read : ByteArray := prog_11_method_28_code
def yX9_read : MethodName := ⟨RX9, "read", "(I)I"⟩
abbrev cX9_unit : ByteArray := prog_11_method_29_code
def yX9_unit : MethodName := ⟨RX9, "unit", "(I)I"⟩
abbrev cX9_heap : ByteArray := prog_11_method_30_code
def yX9_heap : MethodName := ⟨RX9, "heap", "(II)I"⟩
abbrev cX9_forget : ByteArray := prog_11_method_31_code
def yX9_forget : MethodName := ⟨RX9, "forget", "(I)I"⟩
def RJx8e188 : String := "java/lang/Cloneable"
def TJx8e188 : u_T := fun k => match k with
  | _ => ("", "", "", false)
def tyJx8e188 : Nat → FieldType := fun k => match k with
  | _ => .int
abbrev wsJx8e1880 : List Cond := u_ws RJx8e188 TJx8e188 0
theorem nmJx8e188 : ∀ a, a < 0 → ∀ b, b < 0 → a ≠ b → (TJx8e188 a).2.1 ≠ (TJx8e188 b).2.1 := by decide +kernel
theorem tyJx8e188_ok : ∀ k, k < 0 → parseFieldDescriptor (TJx8e188 k).2.2.1 = some (tyJx8e188 k) := by decide +kernel
def RJ9 : String := "java/lang/Math"
def TJ9 : u_T := fun k => match k with
  | _ => ("", "", "", false)
def tyJ9 : Nat → FieldType := fun k => match k with
  | _ => .int
abbrev wsJ90 : List Cond := u_ws RJ9 TJ9 0
theorem nmJ9 : ∀ a, a < 0 → ∀ b, b < 0 → a ≠ b → (TJ9 a).2.1 ≠ (TJ9 b).2.1 := by decide +kernel
theorem tyJ9_ok : ∀ k, k < 0 → parseFieldDescriptor (TJ9 k).2.2.1 = some (tyJ9 k) := by decide +kernel
abbrev cJ9_max_7cf53 : ByteArray := prog_16_method_65_code
def yJ9_max_7cf53 : MethodName := ⟨RJ9, "max", "(II)I"⟩
abbrev cJ9_min_7cf53 : ByteArray := prog_16_method_69_code
def yJ9_min_7cf53 : MethodName := ⟨RJ9, "min", "(II)I"⟩
def RJ0 : String := "java/lang/String"
def TJ0 : u_T := fun k => match k with
  | _ => ("", "", "", false)
def tyJ0 : Nat → FieldType := fun k => match k with
  | _ => .int
abbrev wsJ00 : List Cond := u_ws RJ0 TJ0 0
theorem nmJ0 : ∀ a, a < 0 → ∀ b, b < 0 → a ≠ b → (TJ0 a).2.1 ≠ (TJ0 b).2.1 := by decide +kernel
theorem tyJ0_ok : ∀ k, k < 0 → parseFieldDescriptor (TJ0 k).2.2.1 = some (tyJ0 k) := by decide +kernel
def RJ10 : String := "java/lang/System"
def TJ10 : u_T := fun k => match k with
  | _ => ("", "", "", false)
def tyJ10 : Nat → FieldType := fun k => match k with
  | _ => .int
abbrev wsJ100 : List Cond := u_ws RJ10 TJ10 0
theorem nmJ10 : ∀ a, a < 0 → ∀ b, b < 0 → a ≠ b → (TJ10 a).2.1 ≠ (TJ10 b).2.1 := by decide +kernel
theorem tyJ10_ok : ∀ k, k < 0 → parseFieldDescriptor (TJ10 k).2.2.1 = some (tyJ10 k) := by decide +kernel
def RJ7 : String := "java/util/Arrays"
def TJ7 : u_T := fun k => match k with
  | _ => ("", "", "", false)
def tyJ7 : Nat → FieldType := fun k => match k with
  | _ => .int
abbrev wsJ70 : List Cond := u_ws RJ7 TJ7 0
theorem nmJ7 : ∀ a, a < 0 → ∀ b, b < 0 → a ≠ b → (TJ7 a).2.1 ≠ (TJ7 b).2.1 := by decide +kernel
theorem tyJ7_ok : ∀ k, k < 0 → parseFieldDescriptor (TJ7 k).2.2.1 = some (tyJ7 k) := by decide +kernel
abbrev cJ7_fill_53178 : ByteArray := prog_22_method_103_code
def yJ7_fill_53178 : MethodName := ⟨RJ7, "fill", "([II)V"⟩
abbrev cJ7_copyOf_59c91 : ByteArray := prog_22_method_123_code
def yJ7_copyOf_59c91 : MethodName := ⟨RJ7, "copyOf", "([II)[I"⟩
def RL : String := "TextPartsLaw"
def wsX0_isItsOwnSeven : List Cond := .code yX0_isItsOwnSeven cX0_isItsOwnSeven 1 (some .boolean) :: ([])
def wsX0_partner : List Cond := .code yX0_partner cX0_partner 4 (some .int) :: ([])
def wsX0_plainSeven : List Cond := .code yX0_plainSeven cX0_plainSeven 1 (some .int) :: ([.fieldLink RX0 22 "TextParts$Alphabet" "OTHER_UNITS" "[I", .fieldLink RX0 26 "TextParts$Alphabet" "OTHER_SEVENS" "[I", .methodLink RX0 18 yX0_isItsOwnSeven, .static yX0_isItsOwnSeven, .initialized RX0, .code yX0_isItsOwnSeven cX0_isItsOwnSeven 1 (some .boolean), .methodLink RX0 29 yX0_partner, .static yX0_partner, .code yX0_partner cX0_partner 4 (some .int)])
def wsX0_escapedSeven : List Cond := .code yX0_escapedSeven cX0_escapedSeven 1 (some .int) :: ([.fieldLink RX0 33 "TextParts$Alphabet" "ESCAPED_UNITS" "[I", .fieldLink RX0 36 "TextParts$Alphabet" "ESCAPED_SEVENS" "[I", .methodLink RX0 29 yX0_partner, .static yX0_partner, .initialized RX0, .code yX0_partner cX0_partner 4 (some .int)])
def wsX0_sevensFor : List Cond := .code yX0_sevensFor cX0_sevensFor 1 (some .int) :: ([.methodLink RX0 9 yX0_plainSeven, .static yX0_plainSeven, .initialized RX0, .code yX0_plainSeven cX0_plainSeven 1 (some .int), .fieldLink RX0 22 "TextParts$Alphabet" "OTHER_UNITS" "[I", .fieldLink RX0 26 "TextParts$Alphabet" "OTHER_SEVENS" "[I", .methodLink RX0 18 yX0_isItsOwnSeven, .static yX0_isItsOwnSeven, .code yX0_isItsOwnSeven cX0_isItsOwnSeven 1 (some .boolean), .methodLink RX0 29 yX0_partner, .static yX0_partner, .code yX0_partner cX0_partner 4 (some .int), .methodLink RX0 15 yX0_escapedSeven, .static yX0_escapedSeven, .code yX0_escapedSeven cX0_escapedSeven 1 (some .int), .fieldLink RX0 33 "TextParts$Alphabet" "ESCAPED_UNITS" "[I", .fieldLink RX0 36 "TextParts$Alphabet" "ESCAPED_SEVENS" "[I"])
def wsX0_plainUnit : List Cond := .code yX0_plainUnit cX0_plainUnit 2 (some .int) :: ([.fieldLink RX0 26 "TextParts$Alphabet" "OTHER_SEVENS" "[I", .fieldLink RX0 22 "TextParts$Alphabet" "OTHER_UNITS" "[I", .methodLink RX0 18 yX0_isItsOwnSeven, .static yX0_isItsOwnSeven, .initialized RX0, .code yX0_isItsOwnSeven cX0_isItsOwnSeven 1 (some .boolean), .methodLink RX0 29 yX0_partner, .static yX0_partner, .code yX0_partner cX0_partner 4 (some .int)])
def wsX0_escapedUnit : List Cond := .code yX0_escapedUnit cX0_escapedUnit 2 (some .int) :: ([.fieldLink RX0 36 "TextParts$Alphabet" "ESCAPED_SEVENS" "[I", .fieldLink RX0 33 "TextParts$Alphabet" "ESCAPED_UNITS" "[I", .methodLink RX0 29 yX0_partner, .static yX0_partner, .initialized RX0, .code yX0_partner cX0_partner 4 (some .int), .methodLink RX0 39 yX0_plainUnit, .static yX0_plainUnit, .code yX0_plainUnit cX0_plainUnit 2 (some .int), .fieldLink RX0 26 "TextParts$Alphabet" "OTHER_SEVENS" "[I", .fieldLink RX0 22 "TextParts$Alphabet" "OTHER_UNITS" "[I", .methodLink RX0 18 yX0_isItsOwnSeven, .static yX0_isItsOwnSeven, .code yX0_isItsOwnSeven cX0_isItsOwnSeven 1 (some .boolean)])
def wsX1_init : List Cond := .code yX1_init cX1_init 4 none :: ([.methodLink RX1 3 objectInit, .instanceMethod objectInit, .code objectInit ⟨#[0xb1]⟩ 1 none, .fieldLink RX1 9 "TextParts$Heap" "sender" "I", .fieldLink RX1 15 "TextParts$Heap" "reference" "I", .methodLink RX1 18 Lib.Math.max.name, .static Lib.Math.max.name, .initialized "java/lang/Math", .code Lib.Math.max.name Lib.Math.max.code 2 (some .int), .classLink RX1 24 RX5, .fieldLink RX1 26 "TextParts$Heap" "pieces" "[LTextParts$Piece;"] ++ wsX10)
def wsX1_isOf : List Cond := .code yX1_isOf cX1_isOf 4 (some .boolean) :: ([.fieldLink RX1 9 "TextParts$Heap" "sender" "I", .fieldLink RX1 15 "TextParts$Heap" "reference" "I", .fieldLink RX1 26 "TextParts$Heap" "pieces" "[LTextParts$Piece;"] ++ wsX10)
def wsX1_isWhole : List Cond := .code yX1_isWhole cX1_isWhole 1 (some .boolean) :: ([.fieldLink RX1 30 "TextParts$Heap" "there" "I", .fieldLink RX1 26 "TextParts$Heap" "pieces" "[LTextParts$Piece;"] ++ wsX10)
def wsX5_init : List Cond := .code yX5_init cX5_init 2 none :: ([.methodLink RX5 1 objectInit, .instanceMethod objectInit, .code objectInit ⟨#[0xb1]⟩ 1 none, .fieldLink RX5 7 "TextParts$Piece" "units" "[I"] ++ wsX50)
def wsX1_add : List Cond := .code yX1_add cX1_add 3 (some .boolean) :: ([.fieldLink RX1 26 "TextParts$Heap" "pieces" "[LTextParts$Piece;", .classLink RX1 24 RX5, .instantiable RX5 1, .initialized RX5, .fieldLink RX1 30 "TextParts$Heap" "there" "I", .fieldLink RX1 36 "TextParts$Heap" "unitCount" "I", .methodLink RX1 33 yX5_init, .instanceMethod yX5_init, .code yX5_init cX5_init 2 none, .methodLink RX5 1 objectInit, .instanceMethod objectInit, .code objectInit ⟨#[0xb1]⟩ 1 none, .fieldLink RX5 7 "TextParts$Piece" "units" "[I"] ++ wsX10 ++ wsX50)
def wsX1_unitAt : List Cond := .code yX1_unitAt cX1_unitAt 7 (some .int) :: ([.fieldLink RX1 26 "TextParts$Heap" "pieces" "[LTextParts$Piece;", .fieldLink RX1 39 "TextParts$Piece" "units" "[I"] ++ wsX10 ++ wsX50)
def wsX1_tell : List Cond := .code yX1_tell cX1_tell 2 (some .int) :: ([.fieldLink RX1 9 "TextParts$Heap" "sender" "I", .fieldLink RX1 15 "TextParts$Heap" "reference" "I", .fieldLink RX1 26 "TextParts$Heap" "pieces" "[LTextParts$Piece;", .fieldLink RX1 30 "TextParts$Heap" "there" "I"] ++ wsX10)
def wsX4_init : List Cond := .code yX4_init cX4_init 1 none :: ([.methodLink RX4 3 objectInit, .instanceMethod objectInit, .code objectInit ⟨#[0xb1]⟩ 1 none, .arrayClass .int, .fieldLink RX4 9 "TextParts$PartReader" "units" "[I"] ++ wsX40)
def wsX2_init : List Cond := .code yX2_init cX2_init 1 none :: ([.methodLink RX2 3 objectInit, .instanceMethod objectInit, .code objectInit ⟨#[0xb1]⟩ 1 none, .classLink RX2 9 RX4, .instantiable RX4 7, .initialized RX4, .fieldLink RX2 12 "TextParts$Inbox" "reader" "LTextParts$PartReader;", .classLink RX2 18 RX1, .fieldLink RX2 20 "TextParts$Inbox" "heaps" "[LTextParts$Heap;", .instanceMethod yX4_init, .code yX4_init cX4_init 1 none, .methodLink RX4 3 objectInit, .arrayClass .int, .fieldLink RX4 9 "TextParts$PartReader" "units" "[I"] ++ wsX40 ++ wsX20)
def wsX6_byteAt : List Cond := .code yX6_byteAt cX6_byteAt 2 (some .int) :: ([.fieldLink RX6 30 "TextParts$Row" "size" "I", .fieldLink RX6 9 "TextParts$Row" "bytes" "[I"] ++ wsX60)
def wsX8_bytesForSevens : List Cond := .code yX8_bytesForSevens cX8_bytesForSevens 1 (some .int) :: ([])
def wsX4_isWrongSize : List Cond := .code yX4_isWrongSize cX4_isWrongSize 2 (some .boolean) :: ([.fieldLink RX4 29 "TextParts$PartReader" "byPairs" "Z", .fieldLink RX4 32 "TextParts$PartReader" "held" "I", .static yX8_bytesForSevens, .initialized RX8, .code yX8_bytesForSevens cX8_bytesForSevens 1 (some .int)] ++ wsX40)
def wsX4_isWrongHeader : List Cond := .code yX4_isWrongHeader cX4_isWrongHeader 3 (some .boolean) :: ([.fieldLink RX4 32 "TextParts$PartReader" "held" "I", .fieldLink RX4 29 "TextParts$PartReader" "byPairs" "Z", .fieldLink RX4 62 "TextParts$PartReader" "reference" "I", .fieldLink RX4 65 "TextParts$PartReader" "parts" "I", .fieldLink RX4 68 "TextParts$PartReader" "number" "I", .methodLink RX4 21 yX6_byteAt, .instanceMethod yX6_byteAt, .selects RX6 yX6_byteAt yX6_byteAt, .initialized RX6, .code yX6_byteAt cX6_byteAt 2 (some .int), .fieldLink RX6 30 "TextParts$Row" "size" "I", .fieldLink RX6 9 "TextParts$Row" "bytes" "[I"] ++ wsX40 ++ wsX60)
def wsX6_byteOrZero : List Cond := .code yX6_byteOrZero cX6_byteOrZero 2 (some .int) :: ([.methodLink RX6 27 Lib.Math.max.name, .static Lib.Math.max.name, .initialized "java/lang/Math", .code Lib.Math.max.name Lib.Math.max.code 2 (some .int), .methodLink RX6 42 yX6_byteAt, .instanceMethod yX6_byteAt, .selects RX6 yX6_byteAt yX6_byteAt, .initialized RX6, .code yX6_byteAt cX6_byteAt 2 (some .int), .fieldLink RX6 30 "TextParts$Row" "size" "I", .fieldLink RX6 9 "TextParts$Row" "bytes" "[I"] ++ wsX60)
def wsX6_isBitSet : List Cond := .code yX6_isBitSet cX6_isBitSet 2 (some .boolean) :: ([.methodLink RX6 34 yX6_byteOrZero, .instanceMethod yX6_byteOrZero, .selects RX6 yX6_byteOrZero yX6_byteOrZero, .initialized RX6, .code yX6_byteOrZero cX6_byteOrZero 2 (some .int), .methodLink RX6 27 Lib.Math.max.name, .static Lib.Math.max.name, .initialized "java/lang/Math", .code Lib.Math.max.name Lib.Math.max.code 2 (some .int), .methodLink RX6 42 yX6_byteAt, .instanceMethod yX6_byteAt, .selects RX6 yX6_byteAt yX6_byteAt, .code yX6_byteAt cX6_byteAt 2 (some .int), .fieldLink RX6 30 "TextParts$Row" "size" "I", .fieldLink RX6 9 "TextParts$Row" "bytes" "[I"] ++ wsX60)
def wsX4_hasStrayBits : List Cond := .code yX4_hasStrayBits cX4_hasStrayBits 4 (some .boolean) :: ([.fieldLink RX4 25 "TextParts$PartReader" "headed" "Z", .fieldLink RX4 32 "TextParts$PartReader" "held" "I", .methodLink RX4 71 yX6_isBitSet, .instanceMethod yX6_isBitSet, .selects RX6 yX6_isBitSet yX6_isBitSet, .initialized RX6, .code yX6_isBitSet cX6_isBitSet 2 (some .boolean), .methodLink RX6 34 yX6_byteOrZero, .instanceMethod yX6_byteOrZero, .selects RX6 yX6_byteOrZero yX6_byteOrZero, .code yX6_byteOrZero cX6_byteOrZero 2 (some .int), .methodLink RX6 27 Lib.Math.max.name, .static Lib.Math.max.name, .initialized "java/lang/Math", .code Lib.Math.max.name Lib.Math.max.code 2 (some .int), .methodLink RX6 42 yX6_byteAt, .instanceMethod yX6_byteAt, .selects RX6 yX6_byteAt yX6_byteAt, .code yX6_byteAt cX6_byteAt 2 (some .int), .fieldLink RX6 30 "TextParts$Row" "size" "I", .fieldLink RX6 9 "TextParts$Row" "bytes" "[I", .static yX8_bytesForSevens, .initialized RX8, .code yX8_bytesForSevens cX8_bytesForSevens 1 (some .int)] ++ wsX40 ++ wsX60)
def wsX4_faultOf_r1 : List Cond := [Cond.fieldLink RX4 15 "TextParts$Row" "size" "I", Cond.fieldLink RX4 25 "TextParts$PartReader" "headed" "Z", Cond.fieldLink RX4 29 "TextParts$PartReader" "byPairs" "Z", Cond.fieldLink RX4 32 "TextParts$PartReader" "held" "I", Cond.methodLink RX4 21 yX6_byteAt, Cond.instanceMethod yX6_byteAt, Cond.selects RX6 yX6_byteAt yX6_byteAt, Cond.initialized RX6, Cond.code yX6_byteAt cX6_byteAt 2 (some .int), Cond.fieldLink RX6 30 "TextParts$Row" "size" "I", Cond.fieldLink RX6 9 "TextParts$Row" "bytes" "[I", Cond.methodLink RX4 35 yX4_isWrongSize, Cond.instanceMethod yX4_isWrongSize, Cond.selects RX4 yX4_isWrongSize yX4_isWrongSize, Cond.initialized RX4, Cond.code yX4_isWrongSize cX4_isWrongSize 2 (some .boolean), Cond.static yX8_bytesForSevens, Cond.initialized RX8, Cond.code yX8_bytesForSevens cX8_bytesForSevens 1 (some .int), Cond.methodLink RX4 39 yX4_isWrongHeader, Cond.instanceMethod yX4_isWrongHeader, Cond.selects RX4 yX4_isWrongHeader yX4_isWrongHeader, Cond.code yX4_isWrongHeader cX4_isWrongHeader 3 (some .boolean), Cond.fieldLink RX4 62 "TextParts$PartReader" "reference" "I"]
def wsX4_faultOf_r2 : List Cond := [Cond.fieldLink RX4 65 "TextParts$PartReader" "parts" "I", Cond.fieldLink RX4 68 "TextParts$PartReader" "number" "I", Cond.methodLink RX4 43 yX4_hasStrayBits, Cond.instanceMethod yX4_hasStrayBits, Cond.selects RX4 yX4_hasStrayBits yX4_hasStrayBits, Cond.code yX4_hasStrayBits cX4_hasStrayBits 4 (some .boolean), Cond.methodLink RX4 71 yX6_isBitSet, Cond.instanceMethod yX6_isBitSet, Cond.selects RX6 yX6_isBitSet yX6_isBitSet, Cond.code yX6_isBitSet cX6_isBitSet 2 (some .boolean), Cond.methodLink RX6 34 yX6_byteOrZero, Cond.instanceMethod yX6_byteOrZero, Cond.selects RX6 yX6_byteOrZero yX6_byteOrZero, Cond.code yX6_byteOrZero cX6_byteOrZero 2 (some .int), Cond.methodLink RX6 27 Lib.Math.max.name, Cond.static Lib.Math.max.name, Cond.initialized "java/lang/Math", Cond.code Lib.Math.max.name Lib.Math.max.code 2 (some .int), Cond.methodLink RX6 42 yX6_byteAt]
def wsX4_faultOf : List Cond := .code yX4_faultOf cX4_faultOf 3 (some .int) :: ((wsX4_faultOf_r1 ++ wsX4_faultOf_r2) ++ wsX60 ++ wsX40)
def wsX4_collectPairs : List Cond := .code yX4_collectPairs cX4_collectPairs 4 (some .int) :: ([.fieldLink RX4 25 "TextParts$PartReader" "headed" "Z", .fieldLink RX4 32 "TextParts$PartReader" "held" "I", .fieldLink RX4 9 "TextParts$PartReader" "units" "[I", .methodLink RX4 21 yX6_byteAt, .instanceMethod yX6_byteAt, .selects RX6 yX6_byteAt yX6_byteAt, .initialized RX6, .code yX6_byteAt cX6_byteAt 2 (some .int), .fieldLink RX6 30 "TextParts$Row" "size" "I", .fieldLink RX6 9 "TextParts$Row" "bytes" "[I"] ++ wsX40 ++ wsX60)
def wsX6_sevenAt : List Cond := .code yX6_sevenAt cX6_sevenAt 4 (some .int) :: ([.methodLink RX6 34 yX6_byteOrZero, .instanceMethod yX6_byteOrZero, .selects RX6 yX6_byteOrZero yX6_byteOrZero, .initialized RX6, .code yX6_byteOrZero cX6_byteOrZero 2 (some .int), .methodLink RX6 27 Lib.Math.max.name, .static Lib.Math.max.name, .initialized "java/lang/Math", .code Lib.Math.max.name Lib.Math.max.code 2 (some .int), .methodLink RX6 42 yX6_byteAt, .instanceMethod yX6_byteAt, .selects RX6 yX6_byteAt yX6_byteAt, .code yX6_byteAt cX6_byteAt 2 (some .int), .fieldLink RX6 30 "TextParts$Row" "size" "I", .fieldLink RX6 9 "TextParts$Row" "bytes" "[I"] ++ wsX60)
def wsX4_collectSevens_r1 : List Cond := [Cond.fieldLink RX4 25 "TextParts$PartReader" "headed" "Z", Cond.fieldLink RX4 32 "TextParts$PartReader" "held" "I", Cond.fieldLink RX4 9 "TextParts$PartReader" "units" "[I", Cond.methodLink RX4 74 yX6_sevenAt, Cond.instanceMethod yX6_sevenAt, Cond.selects RX6 yX6_sevenAt yX6_sevenAt, Cond.initialized RX6, Cond.code yX6_sevenAt cX6_sevenAt 4 (some .int), Cond.methodLink RX6 34 yX6_byteOrZero, Cond.instanceMethod yX6_byteOrZero, Cond.selects RX6 yX6_byteOrZero yX6_byteOrZero, Cond.code yX6_byteOrZero cX6_byteOrZero 2 (some .int), Cond.methodLink RX6 27 Lib.Math.max.name, Cond.static Lib.Math.max.name, Cond.initialized "java/lang/Math", Cond.code Lib.Math.max.name Lib.Math.max.code 2 (some .int), Cond.methodLink RX6 42 yX6_byteAt, Cond.instanceMethod yX6_byteAt, Cond.selects RX6 yX6_byteAt yX6_byteAt, Cond.code yX6_byteAt cX6_byteAt 2 (some .int), Cond.fieldLink RX6 30 "TextParts$Row" "size" "I", Cond.fieldLink RX6 9 "TextParts$Row" "bytes" "[I", Cond.methodLink RX4 79 yX0_escapedUnit, Cond.static yX0_escapedUnit]
def wsX4_collectSevens_r2 : List Cond := [Cond.initialized RX0, Cond.code yX0_escapedUnit cX0_escapedUnit 2 (some .int), Cond.fieldLink RX0 36 "TextParts$Alphabet" "ESCAPED_SEVENS" "[I", Cond.fieldLink RX0 33 "TextParts$Alphabet" "ESCAPED_UNITS" "[I", Cond.methodLink RX0 29 yX0_partner, Cond.static yX0_partner, Cond.code yX0_partner cX0_partner 4 (some .int), Cond.methodLink RX0 39 yX0_plainUnit, Cond.static yX0_plainUnit, Cond.code yX0_plainUnit cX0_plainUnit 2 (some .int), Cond.fieldLink RX0 26 "TextParts$Alphabet" "OTHER_SEVENS" "[I", Cond.fieldLink RX0 22 "TextParts$Alphabet" "OTHER_UNITS" "[I", Cond.methodLink RX0 18 yX0_isItsOwnSeven, Cond.static yX0_isItsOwnSeven, Cond.code yX0_isItsOwnSeven cX0_isItsOwnSeven 1 (some .boolean), Cond.methodLink RX4 82 yX0_plainUnit]
def wsX4_collectSevens : List Cond := .code yX4_collectSevens cX4_collectSevens 5 (some .int) :: ((wsX4_collectSevens_r1 ++ wsX4_collectSevens_r2) ++ wsX40 ++ wsX60)
def wsJ7_copyOf_59c91 : List Cond := .code yJ7_copyOf_59c91 cJ7_copyOf_59c91 3 (some (.array .int)) :: ([.methodLink RJ7 316 ⟨"[I", "clone", "()Ljava/lang/Object;"⟩, .sameMethod "[I" "java/lang/Object" "clone" "()Ljava/lang/Object;", .native ⟨"java/lang/Object", "clone", "()Ljava/lang/Object;"⟩, .instanceMethod ⟨"java/lang/Object", "clone", "()Ljava/lang/Object;"⟩, .selects "[I" ⟨"[I", "clone", "()Ljava/lang/Object;"⟩ ⟨"java/lang/Object", "clone", "()Ljava/lang/Object;"⟩, .classLink RJ7 317 "[I", .arrayClass .int, .methodLink RJ7 304 Lib.Math.min.name, .static Lib.Math.min.name, .initialized "java/lang/Math", .code Lib.Math.min.name Lib.Math.min.code 2 (some .int), .methodLink RJ7 150 arraycopyName, .native arraycopyName, .static arraycopyName, .initialized "java/lang/System"])
def wsX4_unitsOf_r1 : List Cond := [Cond.fieldLink RX4 29 "TextParts$PartReader" "byPairs" "Z", Cond.fieldLink RX4 9 "TextParts$PartReader" "units" "[I", Cond.methodLink RX4 46 yX4_collectPairs, Cond.instanceMethod yX4_collectPairs, Cond.selects RX4 yX4_collectPairs yX4_collectPairs, Cond.initialized RX4, Cond.code yX4_collectPairs cX4_collectPairs 4 (some .int), Cond.fieldLink RX4 25 "TextParts$PartReader" "headed" "Z", Cond.fieldLink RX4 32 "TextParts$PartReader" "held" "I", Cond.methodLink RX4 21 yX6_byteAt, Cond.instanceMethod yX6_byteAt, Cond.selects RX6 yX6_byteAt yX6_byteAt, Cond.initialized RX6, Cond.code yX6_byteAt cX6_byteAt 2 (some .int), Cond.fieldLink RX6 30 "TextParts$Row" "size" "I", Cond.fieldLink RX6 9 "TextParts$Row" "bytes" "[I", Cond.methodLink RX4 50 yX4_collectSevens, Cond.instanceMethod yX4_collectSevens, Cond.selects RX4 yX4_collectSevens yX4_collectSevens, Cond.code yX4_collectSevens cX4_collectSevens 5 (some .int), Cond.methodLink RX4 74 yX6_sevenAt, Cond.instanceMethod yX6_sevenAt, Cond.selects RX6 yX6_sevenAt yX6_sevenAt, Cond.code yX6_sevenAt cX6_sevenAt 4 (some .int)]
def wsX4_unitsOf_r2 : List Cond := [Cond.methodLink RX6 34 yX6_byteOrZero, Cond.instanceMethod yX6_byteOrZero, Cond.selects RX6 yX6_byteOrZero yX6_byteOrZero, Cond.code yX6_byteOrZero cX6_byteOrZero 2 (some .int), Cond.methodLink RX6 27 Lib.Math.max.name, Cond.static Lib.Math.max.name, Cond.initialized "java/lang/Math", Cond.code Lib.Math.max.name Lib.Math.max.code 2 (some .int), Cond.methodLink RX6 42 yX6_byteAt, Cond.methodLink RX4 79 yX0_escapedUnit, Cond.static yX0_escapedUnit, Cond.initialized RX0, Cond.code yX0_escapedUnit cX0_escapedUnit 2 (some .int), Cond.fieldLink RX0 36 "TextParts$Alphabet" "ESCAPED_SEVENS" "[I", Cond.fieldLink RX0 33 "TextParts$Alphabet" "ESCAPED_UNITS" "[I", Cond.methodLink RX0 29 yX0_partner, Cond.static yX0_partner, Cond.code yX0_partner cX0_partner 4 (some .int), Cond.methodLink RX0 39 yX0_plainUnit, Cond.static yX0_plainUnit, Cond.code yX0_plainUnit cX0_plainUnit 2 (some .int), Cond.fieldLink RX0 26 "TextParts$Alphabet" "OTHER_SEVENS" "[I", Cond.fieldLink RX0 22 "TextParts$Alphabet" "OTHER_UNITS" "[I", Cond.methodLink RX0 18 yX0_isItsOwnSeven]
def wsX4_unitsOf_r3 : List Cond := [Cond.static yX0_isItsOwnSeven, Cond.code yX0_isItsOwnSeven cX0_isItsOwnSeven 1 (some .boolean), Cond.methodLink RX4 82 yX0_plainUnit, Cond.methodLink RX4 53 yJ7_copyOf_59c91, Cond.static yJ7_copyOf_59c91, Cond.initialized RJ7, Cond.code yJ7_copyOf_59c91 cJ7_copyOf_59c91 3 (some (.array .int)), Cond.methodLink RJ7 316 ⟨"[I", "clone", "()Ljava/lang/Object;"⟩, Cond.sameMethod "[I" "java/lang/Object" "clone" "()Ljava/lang/Object;", Cond.native ⟨"java/lang/Object", "clone", "()Ljava/lang/Object;"⟩, Cond.instanceMethod ⟨"java/lang/Object", "clone", "()Ljava/lang/Object;"⟩, Cond.selects "[I" ⟨"[I", "clone", "()Ljava/lang/Object;"⟩ ⟨"java/lang/Object", "clone", "()Ljava/lang/Object;"⟩, Cond.classLink RJ7 317 "[I", Cond.arrayClass .int, Cond.methodLink RJ7 304 Lib.Math.min.name, Cond.static Lib.Math.min.name, Cond.code Lib.Math.min.name Lib.Math.min.code 2 (some .int), Cond.methodLink RJ7 150 arraycopyName, Cond.native arraycopyName, Cond.static arraycopyName, Cond.initialized "java/lang/System"]
def wsX4_unitsOf : List Cond := .code yX4_unitsOf cX4_unitsOf 3 (some (.array .int)) :: ((wsX4_unitsOf_r1 ++ (wsX4_unitsOf_r2 ++ wsX4_unitsOf_r3)) ++ wsX40 ++ wsX60)
def wsX2_placeOf : List Cond := .code yX2_placeOf cX2_placeOf 3 (some .int) :: ([.fieldLink RX2 58 "TextParts$Inbox" "heapCount" "I", .fieldLink RX2 20 "TextParts$Inbox" "heaps" "[LTextParts$Heap;", .fieldLink RX2 12 "TextParts$Inbox" "reader" "LTextParts$PartReader;", .fieldLink RX2 91 "TextParts$PartReader" "reference" "I", .fieldLink RX2 94 "TextParts$PartReader" "parts" "I", .methodLink RX2 97 yX1_isOf, .instanceMethod yX1_isOf, .selects RX1 yX1_isOf yX1_isOf, .initialized RX1, .code yX1_isOf cX1_isOf 4 (some .boolean), .fieldLink RX1 9 "TextParts$Heap" "sender" "I", .fieldLink RX1 15 "TextParts$Heap" "reference" "I", .fieldLink RX1 26 "TextParts$Heap" "pieces" "[LTextParts$Piece;"] ++ wsX20 ++ wsX40 ++ wsX10)
def wsX2_longestUntouched : List Cond := .code yX2_longestUntouched cX2_longestUntouched 3 (some .int) :: ([.fieldLink RX2 58 "TextParts$Inbox" "heapCount" "I", .fieldLink RX2 20 "TextParts$Inbox" "heaps" "[LTextParts$Heap;", .fieldLink RX2 84 "TextParts$Heap" "lastPut" "I"] ++ wsX20 ++ wsX10)
def wsX2_removeHeap : List Cond := .code yX2_removeHeap cX2_removeHeap 3 none :: ([.fieldLink RX2 58 "TextParts$Inbox" "heapCount" "I", .fieldLink RX2 20 "TextParts$Inbox" "heaps" "[LTextParts$Heap;"] ++ wsX20)
def wsX2_begin_r1 : List Cond := [Cond.fieldLink RX2 58 "TextParts$Inbox" "heapCount" "I", Cond.fieldLink RX2 20 "TextParts$Inbox" "heaps" "[LTextParts$Heap;", Cond.methodLink RX2 105 Lib.Math.min.name, Cond.static Lib.Math.min.name, Cond.initialized "java/lang/Math", Cond.code Lib.Math.min.name Lib.Math.min.code 2 (some .int), Cond.methodLink RX2 110 Lib.Math.max.name, Cond.static Lib.Math.max.name, Cond.code Lib.Math.max.name Lib.Math.max.code 2 (some .int), Cond.classLink RX2 18 RX1, Cond.instantiable RX1 6, Cond.initialized RX1, Cond.fieldLink RX2 12 "TextParts$Inbox" "reader" "LTextParts$PartReader;", Cond.fieldLink RX2 91 "TextParts$PartReader" "reference" "I", Cond.fieldLink RX2 94 "TextParts$PartReader" "parts" "I", Cond.methodLink RX2 101 yX2_longestUntouched, Cond.instanceMethod yX2_longestUntouched, Cond.selects RX2 yX2_longestUntouched yX2_longestUntouched, Cond.initialized RX2, Cond.code yX2_longestUntouched cX2_longestUntouched 3 (some .int), Cond.fieldLink RX2 84 "TextParts$Heap" "lastPut" "I", Cond.methodLink RX2 68 yX2_removeHeap, Cond.instanceMethod yX2_removeHeap, Cond.selects RX2 yX2_removeHeap yX2_removeHeap]
def wsX2_begin_r2 : List Cond := [Cond.code yX2_removeHeap cX2_removeHeap 3 none, Cond.methodLink RX2 40 yX1_init, Cond.instanceMethod yX1_init, Cond.code yX1_init cX1_init 4 none, Cond.methodLink RX1 3 objectInit, Cond.instanceMethod objectInit, Cond.code objectInit ⟨#[0xb1]⟩ 1 none, Cond.fieldLink RX1 9 "TextParts$Heap" "sender" "I", Cond.fieldLink RX1 15 "TextParts$Heap" "reference" "I", Cond.methodLink RX1 18 Lib.Math.max.name, Cond.classLink RX1 24 RX5, Cond.fieldLink RX1 26 "TextParts$Heap" "pieces" "[LTextParts$Piece;"]
def wsX2_begin : List Cond := .code yX2_begin cX2_begin 3 (some .int) :: ((wsX2_begin_r1 ++ wsX2_begin_r2) ++ wsX20 ++ wsX10 ++ wsX40)
def wsX2_keep_r1 : List Cond := [Cond.fieldLink RX2 20 "TextParts$Inbox" "heaps" "[LTextParts$Heap;", Cond.fieldLink RX2 12 "TextParts$Inbox" "reader" "LTextParts$PartReader;", Cond.fieldLink RX2 78 "TextParts$PartReader" "number" "I", Cond.fieldLink RX2 81 "TextParts$Inbox" "puts" "I", Cond.fieldLink RX2 84 "TextParts$Heap" "lastPut" "I", Cond.fieldLink RX2 43 "TextParts$Inbox" "latest" "LTextParts$Heap;", Cond.methodLink RX2 72 yX2_placeOf, Cond.instanceMethod yX2_placeOf, Cond.selects RX2 yX2_placeOf yX2_placeOf, Cond.initialized RX2, Cond.code yX2_placeOf cX2_placeOf 3 (some .int), Cond.fieldLink RX2 58 "TextParts$Inbox" "heapCount" "I", Cond.fieldLink RX2 91 "TextParts$PartReader" "reference" "I", Cond.fieldLink RX2 94 "TextParts$PartReader" "parts" "I", Cond.methodLink RX2 97 yX1_isOf, Cond.instanceMethod yX1_isOf, Cond.selects RX1 yX1_isOf yX1_isOf, Cond.initialized RX1, Cond.code yX1_isOf cX1_isOf 4 (some .boolean), Cond.fieldLink RX1 9 "TextParts$Heap" "sender" "I", Cond.fieldLink RX1 15 "TextParts$Heap" "reference" "I", Cond.fieldLink RX1 26 "TextParts$Heap" "pieces" "[LTextParts$Piece;", Cond.methodLink RX2 75 yX2_begin, Cond.instanceMethod yX2_begin]
def wsX2_keep_r2 : List Cond := [Cond.selects RX2 yX2_begin yX2_begin, Cond.code yX2_begin cX2_begin 3 (some .int), Cond.methodLink RX2 105 Lib.Math.min.name, Cond.static Lib.Math.min.name, Cond.initialized "java/lang/Math", Cond.code Lib.Math.min.name Lib.Math.min.code 2 (some .int), Cond.methodLink RX2 110 Lib.Math.max.name, Cond.static Lib.Math.max.name, Cond.code Lib.Math.max.name Lib.Math.max.code 2 (some .int), Cond.classLink RX2 18 RX1, Cond.instantiable RX1 6, Cond.methodLink RX2 101 yX2_longestUntouched, Cond.instanceMethod yX2_longestUntouched, Cond.selects RX2 yX2_longestUntouched yX2_longestUntouched, Cond.code yX2_longestUntouched cX2_longestUntouched 3 (some .int), Cond.methodLink RX2 68 yX2_removeHeap, Cond.instanceMethod yX2_removeHeap, Cond.selects RX2 yX2_removeHeap yX2_removeHeap, Cond.code yX2_removeHeap cX2_removeHeap 3 none, Cond.methodLink RX2 40 yX1_init, Cond.instanceMethod yX1_init, Cond.code yX1_init cX1_init 4 none, Cond.methodLink RX1 3 objectInit, Cond.instanceMethod objectInit]
def wsX2_keep_r3 : List Cond := [Cond.code objectInit ⟨#[0xb1]⟩ 1 none, Cond.methodLink RX1 18 Lib.Math.max.name, Cond.classLink RX1 24 RX5, Cond.methodLink RX2 47 yX1_add, Cond.instanceMethod yX1_add, Cond.selects RX1 yX1_add yX1_add, Cond.code yX1_add cX1_add 3 (some .boolean), Cond.instantiable RX5 1, Cond.initialized RX5, Cond.fieldLink RX1 30 "TextParts$Heap" "there" "I", Cond.fieldLink RX1 36 "TextParts$Heap" "unitCount" "I", Cond.methodLink RX1 33 yX5_init, Cond.instanceMethod yX5_init, Cond.code yX5_init cX5_init 2 none, Cond.methodLink RX5 1 objectInit, Cond.fieldLink RX5 7 "TextParts$Piece" "units" "[I", Cond.methodLink RX2 87 yX1_isWhole, Cond.instanceMethod yX1_isWhole, Cond.selects RX1 yX1_isWhole yX1_isWhole, Cond.code yX1_isWhole cX1_isWhole 1 (some .boolean)]
def wsX2_keep : List Cond := .code yX2_keep cX2_keep 5 (some .boolean) :: ((wsX2_keep_r1 ++ (wsX2_keep_r2 ++ wsX2_keep_r3)) ++ wsX20 ++ wsX40 ++ wsX10 ++ wsX50)
def wsX2_accept_r1 : List Cond := [Cond.fieldLink RX2 12 "TextParts$Inbox" "reader" "LTextParts$PartReader;", Cond.fieldLink RX2 32 "TextParts$PartReader" "headed" "Z", Cond.classLink RX2 18 RX1, Cond.instantiable RX1 6, Cond.initialized RX1, Cond.fieldLink RX2 43 "TextParts$Inbox" "latest" "LTextParts$Heap;", Cond.methodLink RX2 24 yX4_faultOf, Cond.instanceMethod yX4_faultOf, Cond.selects RX4 yX4_faultOf yX4_faultOf, Cond.initialized RX4, Cond.code yX4_faultOf cX4_faultOf 3 (some .int), Cond.fieldLink RX4 15 "TextParts$Row" "size" "I", Cond.fieldLink RX4 25 "TextParts$PartReader" "headed" "Z", Cond.fieldLink RX4 29 "TextParts$PartReader" "byPairs" "Z", Cond.fieldLink RX4 32 "TextParts$PartReader" "held" "I", Cond.methodLink RX4 21 yX6_byteAt, Cond.instanceMethod yX6_byteAt, Cond.selects RX6 yX6_byteAt yX6_byteAt, Cond.initialized RX6, Cond.code yX6_byteAt cX6_byteAt 2 (some .int), Cond.fieldLink RX6 30 "TextParts$Row" "size" "I", Cond.fieldLink RX6 9 "TextParts$Row" "bytes" "[I", Cond.methodLink RX4 35 yX4_isWrongSize, Cond.instanceMethod yX4_isWrongSize]
def wsX2_accept_r2 : List Cond := [Cond.selects RX4 yX4_isWrongSize yX4_isWrongSize, Cond.code yX4_isWrongSize cX4_isWrongSize 2 (some .boolean), Cond.static yX8_bytesForSevens, Cond.initialized RX8, Cond.code yX8_bytesForSevens cX8_bytesForSevens 1 (some .int), Cond.methodLink RX4 39 yX4_isWrongHeader, Cond.instanceMethod yX4_isWrongHeader, Cond.selects RX4 yX4_isWrongHeader yX4_isWrongHeader, Cond.code yX4_isWrongHeader cX4_isWrongHeader 3 (some .boolean), Cond.fieldLink RX4 62 "TextParts$PartReader" "reference" "I", Cond.fieldLink RX4 65 "TextParts$PartReader" "parts" "I", Cond.fieldLink RX4 68 "TextParts$PartReader" "number" "I", Cond.methodLink RX4 43 yX4_hasStrayBits, Cond.instanceMethod yX4_hasStrayBits, Cond.selects RX4 yX4_hasStrayBits yX4_hasStrayBits, Cond.code yX4_hasStrayBits cX4_hasStrayBits 4 (some .boolean), Cond.methodLink RX4 71 yX6_isBitSet, Cond.instanceMethod yX6_isBitSet, Cond.selects RX6 yX6_isBitSet yX6_isBitSet, Cond.code yX6_isBitSet cX6_isBitSet 2 (some .boolean), Cond.methodLink RX6 34 yX6_byteOrZero, Cond.instanceMethod yX6_byteOrZero, Cond.selects RX6 yX6_byteOrZero yX6_byteOrZero, Cond.code yX6_byteOrZero cX6_byteOrZero 2 (some .int)]
def wsX2_accept_r3 : List Cond := [Cond.methodLink RX6 27 Lib.Math.max.name, Cond.static Lib.Math.max.name, Cond.initialized "java/lang/Math", Cond.code Lib.Math.max.name Lib.Math.max.code 2 (some .int), Cond.methodLink RX6 42 yX6_byteAt, Cond.methodLink RX2 28 yX4_unitsOf, Cond.instanceMethod yX4_unitsOf, Cond.selects RX4 yX4_unitsOf yX4_unitsOf, Cond.code yX4_unitsOf cX4_unitsOf 3 (some (.array .int)), Cond.fieldLink RX4 9 "TextParts$PartReader" "units" "[I", Cond.methodLink RX4 46 yX4_collectPairs, Cond.instanceMethod yX4_collectPairs, Cond.selects RX4 yX4_collectPairs yX4_collectPairs, Cond.code yX4_collectPairs cX4_collectPairs 4 (some .int), Cond.methodLink RX4 50 yX4_collectSevens, Cond.instanceMethod yX4_collectSevens, Cond.selects RX4 yX4_collectSevens yX4_collectSevens, Cond.code yX4_collectSevens cX4_collectSevens 5 (some .int), Cond.methodLink RX4 74 yX6_sevenAt, Cond.instanceMethod yX6_sevenAt, Cond.selects RX6 yX6_sevenAt yX6_sevenAt, Cond.code yX6_sevenAt cX6_sevenAt 4 (some .int), Cond.methodLink RX4 79 yX0_escapedUnit, Cond.static yX0_escapedUnit]
def wsX2_accept_r4 : List Cond := [Cond.initialized RX0, Cond.code yX0_escapedUnit cX0_escapedUnit 2 (some .int), Cond.fieldLink RX0 36 "TextParts$Alphabet" "ESCAPED_SEVENS" "[I", Cond.fieldLink RX0 33 "TextParts$Alphabet" "ESCAPED_UNITS" "[I", Cond.methodLink RX0 29 yX0_partner, Cond.static yX0_partner, Cond.code yX0_partner cX0_partner 4 (some .int), Cond.methodLink RX0 39 yX0_plainUnit, Cond.static yX0_plainUnit, Cond.code yX0_plainUnit cX0_plainUnit 2 (some .int), Cond.fieldLink RX0 26 "TextParts$Alphabet" "OTHER_SEVENS" "[I", Cond.fieldLink RX0 22 "TextParts$Alphabet" "OTHER_UNITS" "[I", Cond.methodLink RX0 18 yX0_isItsOwnSeven, Cond.static yX0_isItsOwnSeven, Cond.code yX0_isItsOwnSeven cX0_isItsOwnSeven 1 (some .boolean), Cond.methodLink RX4 82 yX0_plainUnit, Cond.methodLink RX4 53 yJ7_copyOf_59c91, Cond.static yJ7_copyOf_59c91, Cond.initialized RJ7, Cond.code yJ7_copyOf_59c91 cJ7_copyOf_59c91 3 (some (.array .int)), Cond.methodLink RJ7 316 ⟨"[I", "clone", "()Ljava/lang/Object;"⟩, Cond.sameMethod "[I" "java/lang/Object" "clone" "()Ljava/lang/Object;", Cond.native ⟨"java/lang/Object", "clone", "()Ljava/lang/Object;"⟩, Cond.instanceMethod ⟨"java/lang/Object", "clone", "()Ljava/lang/Object;"⟩]
def wsX2_accept_r5 : List Cond := [Cond.selects "[I" ⟨"[I", "clone", "()Ljava/lang/Object;"⟩ ⟨"java/lang/Object", "clone", "()Ljava/lang/Object;"⟩, Cond.classLink RJ7 317 "[I", Cond.arrayClass .int, Cond.methodLink RJ7 304 Lib.Math.min.name, Cond.static Lib.Math.min.name, Cond.code Lib.Math.min.name Lib.Math.min.code 2 (some .int), Cond.methodLink RJ7 150 arraycopyName, Cond.native arraycopyName, Cond.static arraycopyName, Cond.initialized "java/lang/System", Cond.methodLink RX2 36 yX2_keep, Cond.instanceMethod yX2_keep, Cond.selects RX2 yX2_keep yX2_keep, Cond.initialized RX2, Cond.code yX2_keep cX2_keep 5 (some .boolean), Cond.fieldLink RX2 20 "TextParts$Inbox" "heaps" "[LTextParts$Heap;", Cond.fieldLink RX2 78 "TextParts$PartReader" "number" "I", Cond.fieldLink RX2 81 "TextParts$Inbox" "puts" "I", Cond.fieldLink RX2 84 "TextParts$Heap" "lastPut" "I", Cond.methodLink RX2 72 yX2_placeOf, Cond.instanceMethod yX2_placeOf, Cond.selects RX2 yX2_placeOf yX2_placeOf, Cond.code yX2_placeOf cX2_placeOf 3 (some .int), Cond.fieldLink RX2 58 "TextParts$Inbox" "heapCount" "I"]
def wsX2_accept_r6 : List Cond := [Cond.fieldLink RX2 91 "TextParts$PartReader" "reference" "I", Cond.fieldLink RX2 94 "TextParts$PartReader" "parts" "I", Cond.methodLink RX2 97 yX1_isOf, Cond.instanceMethod yX1_isOf, Cond.selects RX1 yX1_isOf yX1_isOf, Cond.code yX1_isOf cX1_isOf 4 (some .boolean), Cond.fieldLink RX1 9 "TextParts$Heap" "sender" "I", Cond.fieldLink RX1 15 "TextParts$Heap" "reference" "I", Cond.fieldLink RX1 26 "TextParts$Heap" "pieces" "[LTextParts$Piece;", Cond.methodLink RX2 75 yX2_begin, Cond.instanceMethod yX2_begin, Cond.selects RX2 yX2_begin yX2_begin, Cond.code yX2_begin cX2_begin 3 (some .int), Cond.methodLink RX2 105 Lib.Math.min.name, Cond.methodLink RX2 110 Lib.Math.max.name, Cond.methodLink RX2 101 yX2_longestUntouched, Cond.instanceMethod yX2_longestUntouched, Cond.selects RX2 yX2_longestUntouched yX2_longestUntouched, Cond.code yX2_longestUntouched cX2_longestUntouched 3 (some .int), Cond.methodLink RX2 68 yX2_removeHeap, Cond.instanceMethod yX2_removeHeap, Cond.selects RX2 yX2_removeHeap yX2_removeHeap, Cond.code yX2_removeHeap cX2_removeHeap 3 none, Cond.methodLink RX2 40 yX1_init]
def wsX2_accept_r7 : List Cond := [Cond.instanceMethod yX1_init, Cond.code yX1_init cX1_init 4 none, Cond.methodLink RX1 3 objectInit, Cond.instanceMethod objectInit, Cond.code objectInit ⟨#[0xb1]⟩ 1 none, Cond.methodLink RX1 18 Lib.Math.max.name, Cond.classLink RX1 24 RX5, Cond.methodLink RX2 47 yX1_add, Cond.instanceMethod yX1_add, Cond.selects RX1 yX1_add yX1_add, Cond.code yX1_add cX1_add 3 (some .boolean), Cond.instantiable RX5 1, Cond.initialized RX5, Cond.fieldLink RX1 30 "TextParts$Heap" "there" "I", Cond.fieldLink RX1 36 "TextParts$Heap" "unitCount" "I", Cond.methodLink RX1 33 yX5_init, Cond.instanceMethod yX5_init, Cond.code yX5_init cX5_init 2 none, Cond.methodLink RX5 1 objectInit, Cond.fieldLink RX5 7 "TextParts$Piece" "units" "[I", Cond.methodLink RX2 87 yX1_isWhole, Cond.instanceMethod yX1_isWhole, Cond.selects RX1 yX1_isWhole yX1_isWhole, Cond.code yX1_isWhole cX1_isWhole 1 (some .boolean)]
def wsX2_accept : List Cond := .code yX2_accept cX2_accept 5 (some .int) :: ((wsX2_accept_r1 ++ (wsX2_accept_r2 ++ (wsX2_accept_r3 ++ (wsX2_accept_r4 ++ (wsX2_accept_r5 ++ (wsX2_accept_r6 ++ wsX2_accept_r7)))))) ++ wsX20 ++ wsX40 ++ wsX10 ++ wsX60 ++ wsX50)
def wsX2_latestUnits : List Cond := .code yX2_latestUnits cX2_latestUnits 1 (some .int) :: ([.fieldLink RX2 43 "TextParts$Inbox" "latest" "LTextParts$Heap;", .fieldLink RX2 50 "TextParts$Heap" "unitCount" "I"] ++ wsX20 ++ wsX10)
def wsX2_latestUnit : List Cond := .code yX2_latestUnit cX2_latestUnit 2 (some .int) :: ([.fieldLink RX2 43 "TextParts$Inbox" "latest" "LTextParts$Heap;", .methodLink RX2 54 yX1_unitAt, .instanceMethod yX1_unitAt, .selects RX1 yX1_unitAt yX1_unitAt, .initialized RX1, .code yX1_unitAt cX1_unitAt 7 (some .int), .fieldLink RX1 26 "TextParts$Heap" "pieces" "[LTextParts$Piece;", .fieldLink RX1 39 "TextParts$Piece" "units" "[I"] ++ wsX20 ++ wsX10 ++ wsX50)
def wsX2_aboutHeap : List Cond := .code yX2_aboutHeap cX2_aboutHeap 3 (some .int) :: ([.fieldLink RX2 58 "TextParts$Inbox" "heapCount" "I", .fieldLink RX2 20 "TextParts$Inbox" "heaps" "[LTextParts$Heap;", .methodLink RX2 61 yX1_tell, .instanceMethod yX1_tell, .selects RX1 yX1_tell yX1_tell, .initialized RX1, .code yX1_tell cX1_tell 2 (some .int), .fieldLink RX1 9 "TextParts$Heap" "sender" "I", .fieldLink RX1 15 "TextParts$Heap" "reference" "I", .fieldLink RX1 26 "TextParts$Heap" "pieces" "[LTextParts$Piece;", .fieldLink RX1 30 "TextParts$Heap" "there" "I"] ++ wsX20 ++ wsX10)
def wsX2_dropSender : List Cond := .code yX2_dropSender cX2_dropSender 4 (some .int) :: ([.fieldLink RX2 58 "TextParts$Inbox" "heapCount" "I", .methodLink RX2 64 yX2_aboutHeap, .instanceMethod yX2_aboutHeap, .selects RX2 yX2_aboutHeap yX2_aboutHeap, .initialized RX2, .code yX2_aboutHeap cX2_aboutHeap 3 (some .int), .fieldLink RX2 20 "TextParts$Inbox" "heaps" "[LTextParts$Heap;", .methodLink RX2 61 yX1_tell, .instanceMethod yX1_tell, .selects RX1 yX1_tell yX1_tell, .initialized RX1, .code yX1_tell cX1_tell 2 (some .int), .fieldLink RX1 9 "TextParts$Heap" "sender" "I", .fieldLink RX1 15 "TextParts$Heap" "reference" "I", .fieldLink RX1 26 "TextParts$Heap" "pieces" "[LTextParts$Piece;", .fieldLink RX1 30 "TextParts$Heap" "there" "I", .methodLink RX2 68 yX2_removeHeap, .instanceMethod yX2_removeHeap, .selects RX2 yX2_removeHeap yX2_removeHeap, .code yX2_removeHeap cX2_removeHeap 3 none] ++ wsX20 ++ wsX10)
def wsX3_init : List Cond := .code yX3_init cX3_init 1 none :: ([.methodLink RX3 3 objectInit, .instanceMethod objectInit, .code objectInit ⟨#[0xb1]⟩ 1 none, .classLink RX3 9 RX6, .fieldLink RX3 11 "TextParts$Message" "rows" "[LTextParts$Row;"] ++ wsX30)
def wsX3_rowOf : List Cond := .code yX3_rowOf cX3_rowOf 2 (some (.object "TextParts$Row")) :: ([.fieldLink RX3 17 "TextParts$Message" "partCount" "I", .fieldLink RX3 11 "TextParts$Message" "rows" "[LTextParts$Row;"] ++ wsX30)
def wsX6_init : List Cond := .code yX6_init cX6_init 2 none :: ([.methodLink RX6 3 objectInit, .instanceMethod objectInit, .code objectInit ⟨#[0xb1]⟩ 1 none, .arrayClass .int, .fieldLink RX6 9 "TextParts$Row" "bytes" "[I"] ++ wsX60)
def wsX7_inAlphabet : List Cond := .code yX7_inAlphabet cX7_inAlphabet 1 (some .boolean) :: ([.fieldLink RX7 28 "TextParts$Text" "outsiders" "I"] ++ wsX70)
def wsX7_unitAt : List Cond := .code yX7_unitAt cX7_unitAt 2 (some .int) :: ([.fieldLink RX7 15 "TextParts$Text" "count" "I", .fieldLink RX7 9 "TextParts$Text" "units" "[I"] ++ wsX70)
def wsX7_sevensEnd_r1 : List Cond := [Cond.fieldLink RX7 15 "TextParts$Text" "count" "I", Cond.methodLink RX7 47 yX7_unitAt, Cond.instanceMethod yX7_unitAt, Cond.selects RX7 yX7_unitAt yX7_unitAt, Cond.initialized RX7, Cond.code yX7_unitAt cX7_unitAt 2 (some .int), Cond.fieldLink RX7 9 "TextParts$Text" "units" "[I", Cond.methodLink RX7 19 yX0_sevensFor, Cond.static yX0_sevensFor, Cond.initialized RX0, Cond.code yX0_sevensFor cX0_sevensFor 1 (some .int), Cond.methodLink RX0 9 yX0_plainSeven, Cond.static yX0_plainSeven, Cond.code yX0_plainSeven cX0_plainSeven 1 (some .int), Cond.fieldLink RX0 22 "TextParts$Alphabet" "OTHER_UNITS" "[I", Cond.fieldLink RX0 26 "TextParts$Alphabet" "OTHER_SEVENS" "[I", Cond.methodLink RX0 18 yX0_isItsOwnSeven, Cond.static yX0_isItsOwnSeven, Cond.code yX0_isItsOwnSeven cX0_isItsOwnSeven 1 (some .boolean), Cond.methodLink RX0 29 yX0_partner, Cond.static yX0_partner, Cond.code yX0_partner cX0_partner 4 (some .int), Cond.methodLink RX0 15 yX0_escapedSeven, Cond.static yX0_escapedSeven]
def wsX7_sevensEnd_r2 : List Cond := [Cond.code yX0_escapedSeven cX0_escapedSeven 1 (some .int), Cond.fieldLink RX0 33 "TextParts$Alphabet" "ESCAPED_UNITS" "[I", Cond.fieldLink RX0 36 "TextParts$Alphabet" "ESCAPED_SEVENS" "[I"]
def wsX7_sevensEnd : List Cond := .code yX7_sevensEnd cX7_sevensEnd 4 (some .int) :: ((wsX7_sevensEnd_r1 ++ wsX7_sevensEnd_r2) ++ wsX70)
def wsX7_isHigh : List Cond := .code yX7_isHigh cX7_isHigh 1 (some .boolean) :: ([.constant RX7 57 (55296), .constant RX7 58 (56319)])
def wsX7_isLow : List Cond := .code yX7_isLow cX7_isLow 1 (some .boolean) :: ([.constant RX7 59 (56320), .constant RX7 60 (57343)])
def wsX7_pairsEnd : List Cond := .code yX7_pairsEnd cX7_pairsEnd 3 (some .int) :: ([.fieldLink RX7 15 "TextParts$Text" "count" "I", .methodLink RX7 47 yX7_unitAt, .instanceMethod yX7_unitAt, .selects RX7 yX7_unitAt yX7_unitAt, .initialized RX7, .code yX7_unitAt cX7_unitAt 2 (some .int), .fieldLink RX7 9 "TextParts$Text" "units" "[I", .methodLink RX7 50 yX7_isHigh, .static yX7_isHigh, .code yX7_isHigh cX7_isHigh 1 (some .boolean), .constant RX7 57 (55296), .constant RX7 58 (56319), .methodLink RX7 54 yX7_isLow, .static yX7_isLow, .code yX7_isLow cX7_isLow 1 (some .boolean), .constant RX7 59 (56320), .constant RX7 60 (57343)] ++ wsX70)
def wsX7_partEnd_r1 : List Cond := [Cond.methodLink RX7 38 yX7_inAlphabet, Cond.instanceMethod yX7_inAlphabet, Cond.selects RX7 yX7_inAlphabet yX7_inAlphabet, Cond.initialized RX7, Cond.code yX7_inAlphabet cX7_inAlphabet 1 (some .boolean), Cond.fieldLink RX7 28 "TextParts$Text" "outsiders" "I", Cond.methodLink RX7 41 yX7_sevensEnd, Cond.instanceMethod yX7_sevensEnd, Cond.selects RX7 yX7_sevensEnd yX7_sevensEnd, Cond.code yX7_sevensEnd cX7_sevensEnd 4 (some .int), Cond.fieldLink RX7 15 "TextParts$Text" "count" "I", Cond.methodLink RX7 47 yX7_unitAt, Cond.instanceMethod yX7_unitAt, Cond.selects RX7 yX7_unitAt yX7_unitAt, Cond.code yX7_unitAt cX7_unitAt 2 (some .int), Cond.fieldLink RX7 9 "TextParts$Text" "units" "[I", Cond.methodLink RX7 19 yX0_sevensFor, Cond.static yX0_sevensFor, Cond.initialized RX0, Cond.code yX0_sevensFor cX0_sevensFor 1 (some .int), Cond.methodLink RX0 9 yX0_plainSeven, Cond.static yX0_plainSeven, Cond.code yX0_plainSeven cX0_plainSeven 1 (some .int), Cond.fieldLink RX0 22 "TextParts$Alphabet" "OTHER_UNITS" "[I"]
def wsX7_partEnd_r2 : List Cond := [Cond.fieldLink RX0 26 "TextParts$Alphabet" "OTHER_SEVENS" "[I", Cond.methodLink RX0 18 yX0_isItsOwnSeven, Cond.static yX0_isItsOwnSeven, Cond.code yX0_isItsOwnSeven cX0_isItsOwnSeven 1 (some .boolean), Cond.methodLink RX0 29 yX0_partner, Cond.static yX0_partner, Cond.code yX0_partner cX0_partner 4 (some .int), Cond.methodLink RX0 15 yX0_escapedSeven, Cond.static yX0_escapedSeven, Cond.code yX0_escapedSeven cX0_escapedSeven 1 (some .int), Cond.fieldLink RX0 33 "TextParts$Alphabet" "ESCAPED_UNITS" "[I", Cond.fieldLink RX0 36 "TextParts$Alphabet" "ESCAPED_SEVENS" "[I", Cond.methodLink RX7 44 yX7_pairsEnd, Cond.instanceMethod yX7_pairsEnd, Cond.selects RX7 yX7_pairsEnd yX7_pairsEnd, Cond.code yX7_pairsEnd cX7_pairsEnd 3 (some .int), Cond.methodLink RX7 50 yX7_isHigh, Cond.static yX7_isHigh, Cond.code yX7_isHigh cX7_isHigh 1 (some .boolean), Cond.constant RX7 57 (55296), Cond.constant RX7 58 (56319), Cond.methodLink RX7 54 yX7_isLow, Cond.static yX7_isLow, Cond.code yX7_isLow cX7_isLow 1 (some .boolean)]
def wsX7_partEnd_r3 : List Cond := [Cond.constant RX7 59 (56320), Cond.constant RX7 60 (57343)]
def wsX7_partEnd : List Cond := .code yX7_partEnd cX7_partEnd 2 (some .int) :: ((wsX7_partEnd_r1 ++ (wsX7_partEnd_r2 ++ wsX7_partEnd_r3)) ++ wsX70)
def wsX7_sevensBetween_r1 : List Cond := [Cond.methodLink RX7 47 yX7_unitAt, Cond.instanceMethod yX7_unitAt, Cond.selects RX7 yX7_unitAt yX7_unitAt, Cond.initialized RX7, Cond.code yX7_unitAt cX7_unitAt 2 (some .int), Cond.fieldLink RX7 15 "TextParts$Text" "count" "I", Cond.fieldLink RX7 9 "TextParts$Text" "units" "[I", Cond.methodLink RX7 19 yX0_sevensFor, Cond.static yX0_sevensFor, Cond.initialized RX0, Cond.code yX0_sevensFor cX0_sevensFor 1 (some .int), Cond.methodLink RX0 9 yX0_plainSeven, Cond.static yX0_plainSeven, Cond.code yX0_plainSeven cX0_plainSeven 1 (some .int), Cond.fieldLink RX0 22 "TextParts$Alphabet" "OTHER_UNITS" "[I", Cond.fieldLink RX0 26 "TextParts$Alphabet" "OTHER_SEVENS" "[I", Cond.methodLink RX0 18 yX0_isItsOwnSeven, Cond.static yX0_isItsOwnSeven, Cond.code yX0_isItsOwnSeven cX0_isItsOwnSeven 1 (some .boolean), Cond.methodLink RX0 29 yX0_partner, Cond.static yX0_partner, Cond.code yX0_partner cX0_partner 4 (some .int), Cond.methodLink RX0 15 yX0_escapedSeven, Cond.static yX0_escapedSeven]
def wsX7_sevensBetween_r2 : List Cond := [Cond.code yX0_escapedSeven cX0_escapedSeven 1 (some .int), Cond.fieldLink RX0 33 "TextParts$Alphabet" "ESCAPED_UNITS" "[I", Cond.fieldLink RX0 36 "TextParts$Alphabet" "ESCAPED_SEVENS" "[I"]
def wsX7_sevensBetween : List Cond := .code yX7_sevensBetween cX7_sevensBetween 5 (some .int) :: ((wsX7_sevensBetween_r1 ++ wsX7_sevensBetween_r2) ++ wsX70)
def wsJ7_fill_53178 : List Cond := .code yJ7_fill_53178 cJ7_fill_53178 4 none :: ([])
def wsX6_restart : List Cond := .code yX6_restart cX6_restart 2 none :: ([.fieldLink RX6 9 "TextParts$Row" "bytes" "[I", .methodLink RX6 21 Lib.Math.min.name, .static Lib.Math.min.name, .initialized "java/lang/Math", .code Lib.Math.min.name Lib.Math.min.code 2 (some .int), .methodLink RX6 27 Lib.Math.max.name, .static Lib.Math.max.name, .code Lib.Math.max.name Lib.Math.max.code 2 (some .int), .fieldLink RX6 30 "TextParts$Row" "size" "I", .methodLink RX6 15 yJ7_fill_53178, .static yJ7_fill_53178, .initialized RJ7, .code yJ7_fill_53178 cJ7_fill_53178 4 none] ++ wsX60)
def wsX6_setByte : List Cond := .code yX6_setByte cX6_setByte 3 none :: ([.fieldLink RX6 30 "TextParts$Row" "size" "I", .fieldLink RX6 9 "TextParts$Row" "bytes" "[I"] ++ wsX60)
def wsX6_addSeven : List Cond := .code yX6_addSeven cX6_addSeven 5 none :: ([.methodLink RX6 34 yX6_byteOrZero, .instanceMethod yX6_byteOrZero, .selects RX6 yX6_byteOrZero yX6_byteOrZero, .initialized RX6, .code yX6_byteOrZero cX6_byteOrZero 2 (some .int), .methodLink RX6 27 Lib.Math.max.name, .static Lib.Math.max.name, .initialized "java/lang/Math", .code Lib.Math.max.name Lib.Math.max.code 2 (some .int), .methodLink RX6 42 yX6_byteAt, .instanceMethod yX6_byteAt, .selects RX6 yX6_byteAt yX6_byteAt, .code yX6_byteAt cX6_byteAt 2 (some .int), .fieldLink RX6 30 "TextParts$Row" "size" "I", .fieldLink RX6 9 "TextParts$Row" "bytes" "[I", .methodLink RX6 38 yX6_setByte, .instanceMethod yX6_setByte, .selects RX6 yX6_setByte yX6_setByte, .code yX6_setByte cX6_setByte 3 none] ++ wsX60)
def wsX3_writeSevens_r1 : List Cond := [Cond.methodLink RX3 48 yX7_sevensBetween, Cond.instanceMethod yX7_sevensBetween, Cond.selects RX7 yX7_sevensBetween yX7_sevensBetween, Cond.initialized RX7, Cond.code yX7_sevensBetween cX7_sevensBetween 5 (some .int), Cond.methodLink RX7 47 yX7_unitAt, Cond.instanceMethod yX7_unitAt, Cond.selects RX7 yX7_unitAt yX7_unitAt, Cond.code yX7_unitAt cX7_unitAt 2 (some .int), Cond.fieldLink RX7 15 "TextParts$Text" "count" "I", Cond.fieldLink RX7 9 "TextParts$Text" "units" "[I", Cond.methodLink RX7 19 yX0_sevensFor, Cond.static yX0_sevensFor, Cond.initialized RX0, Cond.code yX0_sevensFor cX0_sevensFor 1 (some .int), Cond.methodLink RX0 9 yX0_plainSeven, Cond.static yX0_plainSeven, Cond.code yX0_plainSeven cX0_plainSeven 1 (some .int), Cond.fieldLink RX0 22 "TextParts$Alphabet" "OTHER_UNITS" "[I", Cond.fieldLink RX0 26 "TextParts$Alphabet" "OTHER_SEVENS" "[I", Cond.methodLink RX0 18 yX0_isItsOwnSeven, Cond.static yX0_isItsOwnSeven, Cond.code yX0_isItsOwnSeven cX0_isItsOwnSeven 1 (some .boolean), Cond.methodLink RX0 29 yX0_partner]
def wsX3_writeSevens_r2 : List Cond := [Cond.static yX0_partner, Cond.code yX0_partner cX0_partner 4 (some .int), Cond.methodLink RX0 15 yX0_escapedSeven, Cond.static yX0_escapedSeven, Cond.code yX0_escapedSeven cX0_escapedSeven 1 (some .int), Cond.fieldLink RX0 33 "TextParts$Alphabet" "ESCAPED_UNITS" "[I", Cond.fieldLink RX0 36 "TextParts$Alphabet" "ESCAPED_SEVENS" "[I", Cond.static yX8_bytesForSevens, Cond.initialized RX8, Cond.code yX8_bytesForSevens cX8_bytesForSevens 1 (some .int), Cond.methodLink RX3 55 yX6_restart, Cond.instanceMethod yX6_restart, Cond.selects RX6 yX6_restart yX6_restart, Cond.initialized RX6, Cond.code yX6_restart cX6_restart 2 none, Cond.fieldLink RX6 9 "TextParts$Row" "bytes" "[I", Cond.methodLink RX6 21 Lib.Math.min.name, Cond.static Lib.Math.min.name, Cond.initialized "java/lang/Math", Cond.code Lib.Math.min.name Lib.Math.min.code 2 (some .int), Cond.methodLink RX6 27 Lib.Math.max.name, Cond.static Lib.Math.max.name, Cond.code Lib.Math.max.name Lib.Math.max.code 2 (some .int), Cond.fieldLink RX6 30 "TextParts$Row" "size" "I"]
def wsX3_writeSevens_r3 : List Cond := [Cond.methodLink RX6 15 yJ7_fill_53178, Cond.static yJ7_fill_53178, Cond.initialized RJ7, Cond.code yJ7_fill_53178 cJ7_fill_53178 4 none, Cond.methodLink RX3 58 yX6_setByte, Cond.instanceMethod yX6_setByte, Cond.selects RX6 yX6_setByte yX6_setByte, Cond.code yX6_setByte cX6_setByte 3 none, Cond.methodLink RX3 62 yX7_unitAt, Cond.methodLink RX3 65 yX0_plainSeven, Cond.methodLink RX3 70 yX6_addSeven, Cond.instanceMethod yX6_addSeven, Cond.selects RX6 yX6_addSeven yX6_addSeven, Cond.code yX6_addSeven cX6_addSeven 5 none, Cond.methodLink RX6 34 yX6_byteOrZero, Cond.instanceMethod yX6_byteOrZero, Cond.selects RX6 yX6_byteOrZero yX6_byteOrZero, Cond.code yX6_byteOrZero cX6_byteOrZero 2 (some .int), Cond.methodLink RX6 42 yX6_byteAt, Cond.instanceMethod yX6_byteAt, Cond.selects RX6 yX6_byteAt yX6_byteAt, Cond.code yX6_byteAt cX6_byteAt 2 (some .int), Cond.methodLink RX6 38 yX6_setByte, Cond.methodLink RX3 73 yX0_escapedSeven]
def wsX3_writeSevens : List Cond := .code yX3_writeSevens cX3_writeSevens 10 none :: ((wsX3_writeSevens_r1 ++ (wsX3_writeSevens_r2 ++ wsX3_writeSevens_r3)) ++ wsX70 ++ wsX60)
def wsX3_writePairs_r1 : List Cond := [Cond.methodLink RX3 55 yX6_restart, Cond.instanceMethod yX6_restart, Cond.selects RX6 yX6_restart yX6_restart, Cond.initialized RX6, Cond.code yX6_restart cX6_restart 2 none, Cond.fieldLink RX6 9 "TextParts$Row" "bytes" "[I", Cond.methodLink RX6 21 Lib.Math.min.name, Cond.static Lib.Math.min.name, Cond.initialized "java/lang/Math", Cond.code Lib.Math.min.name Lib.Math.min.code 2 (some .int), Cond.methodLink RX6 27 Lib.Math.max.name, Cond.static Lib.Math.max.name, Cond.code Lib.Math.max.name Lib.Math.max.code 2 (some .int), Cond.fieldLink RX6 30 "TextParts$Row" "size" "I", Cond.methodLink RX6 15 yJ7_fill_53178, Cond.static yJ7_fill_53178, Cond.initialized RJ7, Cond.code yJ7_fill_53178 cJ7_fill_53178 4 none, Cond.methodLink RX3 58 yX6_setByte, Cond.instanceMethod yX6_setByte, Cond.selects RX6 yX6_setByte yX6_setByte, Cond.code yX6_setByte cX6_setByte 3 none, Cond.methodLink RX3 62 yX7_unitAt, Cond.instanceMethod yX7_unitAt]
def wsX3_writePairs_r2 : List Cond := [Cond.selects RX7 yX7_unitAt yX7_unitAt, Cond.initialized RX7, Cond.code yX7_unitAt cX7_unitAt 2 (some .int), Cond.fieldLink RX7 15 "TextParts$Text" "count" "I", Cond.fieldLink RX7 9 "TextParts$Text" "units" "[I"]
def wsX3_writePairs : List Cond := .code yX3_writePairs cX3_writePairs 8 none :: ((wsX3_writePairs_r1 ++ wsX3_writePairs_r2) ++ wsX60 ++ wsX70)
def wsX3_writeHeader : List Cond := .code yX3_writeHeader cX3_writeHeader 4 none :: ([.methodLink RX3 58 yX6_setByte, .instanceMethod yX6_setByte, .selects RX6 yX6_setByte yX6_setByte, .initialized RX6, .code yX6_setByte cX6_setByte 3 none, .fieldLink RX6 30 "TextParts$Row" "size" "I", .fieldLink RX6 9 "TextParts$Row" "bytes" "[I"] ++ wsX60)
def wsX3_build_r1 : List Cond := [Cond.fieldLink RX3 11 "TextParts$Message" "rows" "[LTextParts$Row;", Cond.classLink RX3 9 RX6, Cond.instantiable RX6 2, Cond.initialized RX6, Cond.fieldLink RX3 30 "TextParts$Text" "count" "I", Cond.fieldLink RX3 17 "TextParts$Message" "partCount" "I", Cond.methodLink RX3 21 yX6_init, Cond.instanceMethod yX6_init, Cond.code yX6_init cX6_init 2 none, Cond.methodLink RX6 3 objectInit, Cond.instanceMethod objectInit, Cond.code objectInit ⟨#[0xb1]⟩ 1 none, Cond.arrayClass .int, Cond.fieldLink RX6 9 "TextParts$Row" "bytes" "[I", Cond.methodLink RX3 24 yX7_partEnd, Cond.instanceMethod yX7_partEnd, Cond.selects RX7 yX7_partEnd yX7_partEnd, Cond.initialized RX7, Cond.code yX7_partEnd cX7_partEnd 2 (some .int), Cond.methodLink RX7 38 yX7_inAlphabet, Cond.instanceMethod yX7_inAlphabet, Cond.selects RX7 yX7_inAlphabet yX7_inAlphabet, Cond.code yX7_inAlphabet cX7_inAlphabet 1 (some .boolean), Cond.fieldLink RX7 28 "TextParts$Text" "outsiders" "I"]
def wsX3_build_r2 : List Cond := [Cond.methodLink RX7 41 yX7_sevensEnd, Cond.instanceMethod yX7_sevensEnd, Cond.selects RX7 yX7_sevensEnd yX7_sevensEnd, Cond.code yX7_sevensEnd cX7_sevensEnd 4 (some .int), Cond.fieldLink RX7 15 "TextParts$Text" "count" "I", Cond.methodLink RX7 47 yX7_unitAt, Cond.instanceMethod yX7_unitAt, Cond.selects RX7 yX7_unitAt yX7_unitAt, Cond.code yX7_unitAt cX7_unitAt 2 (some .int), Cond.fieldLink RX7 9 "TextParts$Text" "units" "[I", Cond.methodLink RX7 19 yX0_sevensFor, Cond.static yX0_sevensFor, Cond.initialized RX0, Cond.code yX0_sevensFor cX0_sevensFor 1 (some .int), Cond.methodLink RX0 9 yX0_plainSeven, Cond.static yX0_plainSeven, Cond.code yX0_plainSeven cX0_plainSeven 1 (some .int), Cond.fieldLink RX0 22 "TextParts$Alphabet" "OTHER_UNITS" "[I", Cond.fieldLink RX0 26 "TextParts$Alphabet" "OTHER_SEVENS" "[I", Cond.methodLink RX0 18 yX0_isItsOwnSeven, Cond.static yX0_isItsOwnSeven, Cond.code yX0_isItsOwnSeven cX0_isItsOwnSeven 1 (some .boolean), Cond.methodLink RX0 29 yX0_partner, Cond.static yX0_partner]
def wsX3_build_r3 : List Cond := [Cond.code yX0_partner cX0_partner 4 (some .int), Cond.methodLink RX0 15 yX0_escapedSeven, Cond.static yX0_escapedSeven, Cond.code yX0_escapedSeven cX0_escapedSeven 1 (some .int), Cond.fieldLink RX0 33 "TextParts$Alphabet" "ESCAPED_UNITS" "[I", Cond.fieldLink RX0 36 "TextParts$Alphabet" "ESCAPED_SEVENS" "[I", Cond.methodLink RX7 44 yX7_pairsEnd, Cond.instanceMethod yX7_pairsEnd, Cond.selects RX7 yX7_pairsEnd yX7_pairsEnd, Cond.code yX7_pairsEnd cX7_pairsEnd 3 (some .int), Cond.methodLink RX7 50 yX7_isHigh, Cond.static yX7_isHigh, Cond.code yX7_isHigh cX7_isHigh 1 (some .boolean), Cond.constant RX7 57 (55296), Cond.constant RX7 58 (56319), Cond.methodLink RX7 54 yX7_isLow, Cond.static yX7_isLow, Cond.code yX7_isLow cX7_isLow 1 (some .boolean), Cond.constant RX7 59 (56320), Cond.constant RX7 60 (57343), Cond.methodLink RX3 33 yX7_inAlphabet, Cond.methodLink RX3 37 yX3_writeSevens, Cond.static yX3_writeSevens, Cond.initialized RX3]
def wsX3_build_r4 : List Cond := [Cond.code yX3_writeSevens cX3_writeSevens 10 none, Cond.methodLink RX3 48 yX7_sevensBetween, Cond.instanceMethod yX7_sevensBetween, Cond.selects RX7 yX7_sevensBetween yX7_sevensBetween, Cond.code yX7_sevensBetween cX7_sevensBetween 5 (some .int), Cond.static yX8_bytesForSevens, Cond.initialized RX8, Cond.code yX8_bytesForSevens cX8_bytesForSevens 1 (some .int), Cond.methodLink RX3 55 yX6_restart, Cond.instanceMethod yX6_restart, Cond.selects RX6 yX6_restart yX6_restart, Cond.code yX6_restart cX6_restart 2 none, Cond.methodLink RX6 21 Lib.Math.min.name, Cond.static Lib.Math.min.name, Cond.initialized "java/lang/Math", Cond.code Lib.Math.min.name Lib.Math.min.code 2 (some .int), Cond.methodLink RX6 27 Lib.Math.max.name, Cond.static Lib.Math.max.name, Cond.code Lib.Math.max.name Lib.Math.max.code 2 (some .int), Cond.fieldLink RX6 30 "TextParts$Row" "size" "I", Cond.methodLink RX6 15 yJ7_fill_53178, Cond.static yJ7_fill_53178, Cond.initialized RJ7, Cond.code yJ7_fill_53178 cJ7_fill_53178 4 none]
def wsX3_build_r5 : List Cond := [Cond.methodLink RX3 58 yX6_setByte, Cond.instanceMethod yX6_setByte, Cond.selects RX6 yX6_setByte yX6_setByte, Cond.code yX6_setByte cX6_setByte 3 none, Cond.methodLink RX3 62 yX7_unitAt, Cond.methodLink RX3 65 yX0_plainSeven, Cond.methodLink RX3 70 yX6_addSeven, Cond.instanceMethod yX6_addSeven, Cond.selects RX6 yX6_addSeven yX6_addSeven, Cond.code yX6_addSeven cX6_addSeven 5 none, Cond.methodLink RX6 34 yX6_byteOrZero, Cond.instanceMethod yX6_byteOrZero, Cond.selects RX6 yX6_byteOrZero yX6_byteOrZero, Cond.code yX6_byteOrZero cX6_byteOrZero 2 (some .int), Cond.methodLink RX6 42 yX6_byteAt, Cond.instanceMethod yX6_byteAt, Cond.selects RX6 yX6_byteAt yX6_byteAt, Cond.code yX6_byteAt cX6_byteAt 2 (some .int), Cond.methodLink RX6 38 yX6_setByte, Cond.methodLink RX3 73 yX0_escapedSeven, Cond.methodLink RX3 41 yX3_writePairs, Cond.static yX3_writePairs, Cond.code yX3_writePairs cX3_writePairs 8 none, Cond.methodLink RX3 44 yX3_writeHeader]
def wsX3_build_r6 : List Cond := [Cond.static yX3_writeHeader, Cond.code yX3_writeHeader cX3_writeHeader 4 none]
def wsX3_build : List Cond := .code yX3_build cX3_build 8 none :: ((wsX3_build_r1 ++ (wsX3_build_r2 ++ (wsX3_build_r3 ++ (wsX3_build_r4 ++ (wsX3_build_r5 ++ wsX3_build_r6))))) ++ wsX30 ++ wsX60 ++ wsX70)
def wsX6_append : List Cond := .code yX6_append cX6_append 2 none :: ([.fieldLink RX6 30 "TextParts$Row" "size" "I", .fieldLink RX6 9 "TextParts$Row" "bytes" "[I"] ++ wsX60)
def wsX7_init : List Cond := .code yX7_init cX7_init 1 none :: ([.methodLink RX7 3 objectInit, .instanceMethod objectInit, .code objectInit ⟨#[0xb1]⟩ 1 none, .arrayClass .int, .fieldLink RX7 9 "TextParts$Text" "units" "[I"] ++ wsX70)
def wsX7_append : List Cond := .code yX7_append cX7_append 3 none :: ([.fieldLink RX7 15 "TextParts$Text" "count" "I", .fieldLink RX7 9 "TextParts$Text" "units" "[I", .fieldLink RX7 25 "TextParts$Text" "sevens" "I", .fieldLink RX7 28 "TextParts$Text" "outsiders" "I", .methodLink RX7 19 yX0_sevensFor, .static yX0_sevensFor, .initialized RX0, .code yX0_sevensFor cX0_sevensFor 1 (some .int), .methodLink RX0 9 yX0_plainSeven, .static yX0_plainSeven, .code yX0_plainSeven cX0_plainSeven 1 (some .int), .fieldLink RX0 22 "TextParts$Alphabet" "OTHER_UNITS" "[I", .fieldLink RX0 26 "TextParts$Alphabet" "OTHER_SEVENS" "[I", .methodLink RX0 18 yX0_isItsOwnSeven, .static yX0_isItsOwnSeven, .code yX0_isItsOwnSeven cX0_isItsOwnSeven 1 (some .boolean), .methodLink RX0 29 yX0_partner, .static yX0_partner, .code yX0_partner cX0_partner 4 (some .int), .methodLink RX0 15 yX0_escapedSeven, .static yX0_escapedSeven, .code yX0_escapedSeven cX0_escapedSeven 1 (some .int), .fieldLink RX0 33 "TextParts$Alphabet" "ESCAPED_UNITS" "[I", .fieldLink RX0 36 "TextParts$Alphabet" "ESCAPED_SEVENS" "[I"] ++ wsX70)
def wsX7_empty : List Cond := .code yX7_empty cX7_empty 1 none :: ([.fieldLink RX7 15 "TextParts$Text" "count" "I", .fieldLink RX7 25 "TextParts$Text" "sevens" "I", .fieldLink RX7 28 "TextParts$Text" "outsiders" "I"] ++ wsX70)
def wsX7_fitsAlone : List Cond := .code yX7_fitsAlone cX7_fitsAlone 1 (some .boolean) :: ([.fieldLink RX7 25 "TextParts$Text" "sevens" "I", .fieldLink RX7 15 "TextParts$Text" "count" "I", .methodLink RX7 38 yX7_inAlphabet, .instanceMethod yX7_inAlphabet, .selects RX7 yX7_inAlphabet yX7_inAlphabet, .initialized RX7, .code yX7_inAlphabet cX7_inAlphabet 1 (some .boolean), .fieldLink RX7 28 "TextParts$Text" "outsiders" "I"] ++ wsX70)
def wsX7_partCount_r1 : List Cond := [Cond.fieldLink RX7 15 "TextParts$Text" "count" "I", Cond.methodLink RX7 31 yX7_fitsAlone, Cond.instanceMethod yX7_fitsAlone, Cond.selects RX7 yX7_fitsAlone yX7_fitsAlone, Cond.initialized RX7, Cond.code yX7_fitsAlone cX7_fitsAlone 1 (some .boolean), Cond.fieldLink RX7 25 "TextParts$Text" "sevens" "I", Cond.methodLink RX7 38 yX7_inAlphabet, Cond.instanceMethod yX7_inAlphabet, Cond.selects RX7 yX7_inAlphabet yX7_inAlphabet, Cond.code yX7_inAlphabet cX7_inAlphabet 1 (some .boolean), Cond.fieldLink RX7 28 "TextParts$Text" "outsiders" "I", Cond.methodLink RX7 35 yX7_partEnd, Cond.instanceMethod yX7_partEnd, Cond.selects RX7 yX7_partEnd yX7_partEnd, Cond.code yX7_partEnd cX7_partEnd 2 (some .int), Cond.methodLink RX7 41 yX7_sevensEnd, Cond.instanceMethod yX7_sevensEnd, Cond.selects RX7 yX7_sevensEnd yX7_sevensEnd, Cond.code yX7_sevensEnd cX7_sevensEnd 4 (some .int), Cond.methodLink RX7 47 yX7_unitAt, Cond.instanceMethod yX7_unitAt, Cond.selects RX7 yX7_unitAt yX7_unitAt, Cond.code yX7_unitAt cX7_unitAt 2 (some .int)]
def wsX7_partCount_r2 : List Cond := [Cond.fieldLink RX7 9 "TextParts$Text" "units" "[I", Cond.methodLink RX7 19 yX0_sevensFor, Cond.static yX0_sevensFor, Cond.initialized RX0, Cond.code yX0_sevensFor cX0_sevensFor 1 (some .int), Cond.methodLink RX0 9 yX0_plainSeven, Cond.static yX0_plainSeven, Cond.code yX0_plainSeven cX0_plainSeven 1 (some .int), Cond.fieldLink RX0 22 "TextParts$Alphabet" "OTHER_UNITS" "[I", Cond.fieldLink RX0 26 "TextParts$Alphabet" "OTHER_SEVENS" "[I", Cond.methodLink RX0 18 yX0_isItsOwnSeven, Cond.static yX0_isItsOwnSeven, Cond.code yX0_isItsOwnSeven cX0_isItsOwnSeven 1 (some .boolean), Cond.methodLink RX0 29 yX0_partner, Cond.static yX0_partner, Cond.code yX0_partner cX0_partner 4 (some .int), Cond.methodLink RX0 15 yX0_escapedSeven, Cond.static yX0_escapedSeven, Cond.code yX0_escapedSeven cX0_escapedSeven 1 (some .int), Cond.fieldLink RX0 33 "TextParts$Alphabet" "ESCAPED_UNITS" "[I", Cond.fieldLink RX0 36 "TextParts$Alphabet" "ESCAPED_SEVENS" "[I", Cond.methodLink RX7 44 yX7_pairsEnd, Cond.instanceMethod yX7_pairsEnd, Cond.selects RX7 yX7_pairsEnd yX7_pairsEnd]
def wsX7_partCount_r3 : List Cond := [Cond.code yX7_pairsEnd cX7_pairsEnd 3 (some .int), Cond.methodLink RX7 50 yX7_isHigh, Cond.static yX7_isHigh, Cond.code yX7_isHigh cX7_isHigh 1 (some .boolean), Cond.constant RX7 57 (55296), Cond.constant RX7 58 (56319), Cond.methodLink RX7 54 yX7_isLow, Cond.static yX7_isLow, Cond.code yX7_isLow cX7_isLow 1 (some .boolean), Cond.constant RX7 59 (56320), Cond.constant RX7 60 (57343)]
def wsX7_partCount : List Cond := .code yX7_partCount cX7_partCount 3 (some .int) :: ((wsX7_partCount_r1 ++ (wsX7_partCount_r2 ++ wsX7_partCount_r3)) ++ wsX70)
def wsX8_init_r1 : List Cond := [Cond.methodLink RX8 1 objectInit, Cond.instanceMethod objectInit, Cond.code objectInit ⟨#[0xb1]⟩ 1 none, Cond.classLink RX8 7 RX7, Cond.instantiable RX7 4, Cond.initialized RX7, Cond.fieldLink RX8 10 "TextParts" "text" "LTextParts$Text;", Cond.classLink RX8 16 RX3, Cond.instantiable RX3 2, Cond.initialized RX3, Cond.fieldLink RX8 19 "TextParts" "made" "LTextParts$Message;", Cond.classLink RX8 23 RX6, Cond.instantiable RX6 2, Cond.initialized RX6, Cond.fieldLink RX8 28 "TextParts" "atHand" "LTextParts$Row;", Cond.classLink RX8 32 RX2, Cond.instantiable RX2 5, Cond.initialized RX2, Cond.fieldLink RX8 35 "TextParts" "inbox" "LTextParts$Inbox;", Cond.fieldLink RX8 39 "TextParts" "nextReference" "I", Cond.instanceMethod yX7_init, Cond.code yX7_init cX7_init 1 none, Cond.methodLink RX7 3 objectInit, Cond.arrayClass .int]
def wsX8_init_r2 : List Cond := [Cond.fieldLink RX7 9 "TextParts$Text" "units" "[I", Cond.instanceMethod yX3_init, Cond.code yX3_init cX3_init 1 none, Cond.methodLink RX3 3 objectInit, Cond.classLink RX3 9 RX6, Cond.fieldLink RX3 11 "TextParts$Message" "rows" "[LTextParts$Row;", Cond.methodLink RX8 25 yX6_init, Cond.instanceMethod yX6_init, Cond.code yX6_init cX6_init 2 none, Cond.methodLink RX6 3 objectInit, Cond.fieldLink RX6 9 "TextParts$Row" "bytes" "[I", Cond.instanceMethod yX2_init, Cond.code yX2_init cX2_init 1 none, Cond.methodLink RX2 3 objectInit, Cond.classLink RX2 9 RX4, Cond.instantiable RX4 7, Cond.initialized RX4, Cond.fieldLink RX2 12 "TextParts$Inbox" "reader" "LTextParts$PartReader;", Cond.classLink RX2 18 RX1, Cond.fieldLink RX2 20 "TextParts$Inbox" "heaps" "[LTextParts$Heap;", Cond.instanceMethod yX4_init, Cond.code yX4_init cX4_init 1 none, Cond.methodLink RX4 3 objectInit, Cond.fieldLink RX4 9 "TextParts$PartReader" "units" "[I"]
def wsX8_init : List Cond := .code yX8_init cX8_init 1 none :: ((wsX8_init_r1 ++ wsX8_init_r2) ++ wsX70 ++ wsX80 ++ wsX30 ++ wsX60 ++ wsX20 ++ wsX40)
def wsX8_put_r1 : List Cond := [Cond.classLink RX8 44 "java/lang/IllegalArgumentException", Cond.initialized "java/lang/IllegalArgumentException", Cond.classLink RX8 54 "java/lang/IllegalStateException", Cond.initialized "java/lang/IllegalStateException", Cond.constant RX8 43 (65535), Cond.fieldLink RX8 10 "TextParts" "text" "LTextParts$Text;", Cond.fieldLink RX8 51 "TextParts$Text" "count" "I", Cond.methodLink RX8 59 yX7_append, Cond.instanceMethod yX7_append, Cond.selects RX7 yX7_append yX7_append, Cond.initialized RX7, Cond.code yX7_append cX7_append 3 none, Cond.fieldLink RX7 15 "TextParts$Text" "count" "I", Cond.fieldLink RX7 9 "TextParts$Text" "units" "[I", Cond.fieldLink RX7 25 "TextParts$Text" "sevens" "I", Cond.fieldLink RX7 28 "TextParts$Text" "outsiders" "I", Cond.methodLink RX7 19 yX0_sevensFor, Cond.static yX0_sevensFor, Cond.initialized RX0, Cond.code yX0_sevensFor cX0_sevensFor 1 (some .int), Cond.methodLink RX0 9 yX0_plainSeven, Cond.static yX0_plainSeven, Cond.code yX0_plainSeven cX0_plainSeven 1 (some .int), Cond.fieldLink RX0 22 "TextParts$Alphabet" "OTHER_UNITS" "[I"]
def wsX8_put_r2 : List Cond := [Cond.fieldLink RX0 26 "TextParts$Alphabet" "OTHER_SEVENS" "[I", Cond.methodLink RX0 18 yX0_isItsOwnSeven, Cond.static yX0_isItsOwnSeven, Cond.code yX0_isItsOwnSeven cX0_isItsOwnSeven 1 (some .boolean), Cond.methodLink RX0 29 yX0_partner, Cond.static yX0_partner, Cond.code yX0_partner cX0_partner 4 (some .int), Cond.methodLink RX0 15 yX0_escapedSeven, Cond.static yX0_escapedSeven, Cond.code yX0_escapedSeven cX0_escapedSeven 1 (some .int), Cond.fieldLink RX0 33 "TextParts$Alphabet" "ESCAPED_UNITS" "[I", Cond.fieldLink RX0 36 "TextParts$Alphabet" "ESCAPED_SEVENS" "[I"]
def wsX8_put : List Cond := .code yX8_put cX8_put 2 (some .int) :: ((wsX8_put_r1 ++ wsX8_put_r2) ++ wsX80 ++ wsX70 ++ (vx_atS RX8 48 "java/lang/IllegalArgumentException" ["java/lang/RuntimeException", "java/lang/Exception"]).filter goodWord ++ (vx_atS RX8 58 "java/lang/IllegalStateException" ["java/lang/RuntimeException", "java/lang/Exception"]).filter goodWord)
def wsX8_clear : List Cond := .code yX8_clear cX8_clear 2 (some .int) :: ([.fieldLink RX8 10 "TextParts" "text" "LTextParts$Text;", .fieldLink RX8 51 "TextParts$Text" "count" "I", .methodLink RX8 62 yX7_empty, .instanceMethod yX7_empty, .selects RX7 yX7_empty yX7_empty, .initialized RX7, .code yX7_empty cX7_empty 1 none, .fieldLink RX7 15 "TextParts$Text" "count" "I", .fieldLink RX7 25 "TextParts$Text" "sevens" "I", .fieldLink RX7 28 "TextParts$Text" "outsiders" "I"] ++ wsX80 ++ wsX70)
def wsX8_about_r1 : List Cond := [Cond.classLink RX8 44 "java/lang/IllegalArgumentException", Cond.initialized "java/lang/IllegalArgumentException", Cond.fieldLink RX8 10 "TextParts" "text" "LTextParts$Text;", Cond.fieldLink RX8 69 "TextParts$Text" "sevens" "I", Cond.fieldLink RX8 51 "TextParts$Text" "count" "I", Cond.fieldLink RX8 39 "TextParts" "nextReference" "I", Cond.fieldLink RX8 19 "TextParts" "made" "LTextParts$Message;", Cond.fieldLink RX8 76 "TextParts$Message" "partCount" "I", Cond.fieldLink RX8 35 "TextParts" "inbox" "LTextParts$Inbox;", Cond.fieldLink RX8 78 "TextParts$Inbox" "heapCount" "I", Cond.fieldLink RX8 28 "TextParts" "atHand" "LTextParts$Row;", Cond.fieldLink RX8 84 "TextParts$Row" "size" "I", Cond.methodLink RX8 65 yX7_inAlphabet, Cond.instanceMethod yX7_inAlphabet, Cond.selects RX7 yX7_inAlphabet yX7_inAlphabet, Cond.initialized RX7, Cond.code yX7_inAlphabet cX7_inAlphabet 1 (some .boolean), Cond.fieldLink RX7 28 "TextParts$Text" "outsiders" "I", Cond.methodLink RX8 72 yX7_partCount, Cond.instanceMethod yX7_partCount, Cond.selects RX7 yX7_partCount yX7_partCount, Cond.code yX7_partCount cX7_partCount 3 (some .int), Cond.fieldLink RX7 15 "TextParts$Text" "count" "I", Cond.methodLink RX7 31 yX7_fitsAlone]
def wsX8_about_r2 : List Cond := [Cond.instanceMethod yX7_fitsAlone, Cond.selects RX7 yX7_fitsAlone yX7_fitsAlone, Cond.code yX7_fitsAlone cX7_fitsAlone 1 (some .boolean), Cond.fieldLink RX7 25 "TextParts$Text" "sevens" "I", Cond.methodLink RX7 38 yX7_inAlphabet, Cond.methodLink RX7 35 yX7_partEnd, Cond.instanceMethod yX7_partEnd, Cond.selects RX7 yX7_partEnd yX7_partEnd, Cond.code yX7_partEnd cX7_partEnd 2 (some .int), Cond.methodLink RX7 41 yX7_sevensEnd, Cond.instanceMethod yX7_sevensEnd, Cond.selects RX7 yX7_sevensEnd yX7_sevensEnd, Cond.code yX7_sevensEnd cX7_sevensEnd 4 (some .int), Cond.methodLink RX7 47 yX7_unitAt, Cond.instanceMethod yX7_unitAt, Cond.selects RX7 yX7_unitAt yX7_unitAt, Cond.code yX7_unitAt cX7_unitAt 2 (some .int), Cond.fieldLink RX7 9 "TextParts$Text" "units" "[I", Cond.methodLink RX7 19 yX0_sevensFor, Cond.static yX0_sevensFor, Cond.initialized RX0, Cond.code yX0_sevensFor cX0_sevensFor 1 (some .int), Cond.methodLink RX0 9 yX0_plainSeven, Cond.static yX0_plainSeven]
def wsX8_about_r3 : List Cond := [Cond.code yX0_plainSeven cX0_plainSeven 1 (some .int), Cond.fieldLink RX0 22 "TextParts$Alphabet" "OTHER_UNITS" "[I", Cond.fieldLink RX0 26 "TextParts$Alphabet" "OTHER_SEVENS" "[I", Cond.methodLink RX0 18 yX0_isItsOwnSeven, Cond.static yX0_isItsOwnSeven, Cond.code yX0_isItsOwnSeven cX0_isItsOwnSeven 1 (some .boolean), Cond.methodLink RX0 29 yX0_partner, Cond.static yX0_partner, Cond.code yX0_partner cX0_partner 4 (some .int), Cond.methodLink RX0 15 yX0_escapedSeven, Cond.static yX0_escapedSeven, Cond.code yX0_escapedSeven cX0_escapedSeven 1 (some .int), Cond.fieldLink RX0 33 "TextParts$Alphabet" "ESCAPED_UNITS" "[I", Cond.fieldLink RX0 36 "TextParts$Alphabet" "ESCAPED_SEVENS" "[I", Cond.methodLink RX7 44 yX7_pairsEnd, Cond.instanceMethod yX7_pairsEnd, Cond.selects RX7 yX7_pairsEnd yX7_pairsEnd, Cond.code yX7_pairsEnd cX7_pairsEnd 3 (some .int), Cond.methodLink RX7 50 yX7_isHigh, Cond.static yX7_isHigh, Cond.code yX7_isHigh cX7_isHigh 1 (some .boolean), Cond.constant RX7 57 (55296), Cond.constant RX7 58 (56319), Cond.methodLink RX7 54 yX7_isLow]
def wsX8_about_r4 : List Cond := [Cond.static yX7_isLow, Cond.code yX7_isLow cX7_isLow 1 (some .boolean), Cond.constant RX7 59 (56320), Cond.constant RX7 60 (57343), Cond.methodLink RX8 81 yX2_latestUnits, Cond.instanceMethod yX2_latestUnits, Cond.selects RX2 yX2_latestUnits yX2_latestUnits, Cond.initialized RX2, Cond.code yX2_latestUnits cX2_latestUnits 1 (some .int), Cond.fieldLink RX2 43 "TextParts$Inbox" "latest" "LTextParts$Heap;", Cond.fieldLink RX2 50 "TextParts$Heap" "unitCount" "I"]
def wsX8_about : List Cond := .code yX8_about cX8_about 2 (some .int) :: ((wsX8_about_r1 ++ (wsX8_about_r2 ++ (wsX8_about_r3 ++ wsX8_about_r4))) ++ wsX80 ++ wsX70 ++ wsX30 ++ wsX20 ++ wsX60 ++ wsX10 ++ (vx_atS RX8 48 "java/lang/IllegalArgumentException" ["java/lang/RuntimeException", "java/lang/Exception"]).filter goodWord)
def wsX8_make_r1 : List Cond := [Cond.classLink RX8 89 "java/lang/UnsupportedOperationException", Cond.initialized "java/lang/UnsupportedOperationException", Cond.fieldLink RX8 10 "TextParts" "text" "LTextParts$Text;", Cond.fieldLink RX8 19 "TextParts" "made" "LTextParts$Message;", Cond.fieldLink RX8 39 "TextParts" "nextReference" "I", Cond.methodLink RX8 72 yX7_partCount, Cond.instanceMethod yX7_partCount, Cond.selects RX7 yX7_partCount yX7_partCount, Cond.initialized RX7, Cond.code yX7_partCount cX7_partCount 3 (some .int), Cond.fieldLink RX7 15 "TextParts$Text" "count" "I", Cond.methodLink RX7 31 yX7_fitsAlone, Cond.instanceMethod yX7_fitsAlone, Cond.selects RX7 yX7_fitsAlone yX7_fitsAlone, Cond.code yX7_fitsAlone cX7_fitsAlone 1 (some .boolean), Cond.fieldLink RX7 25 "TextParts$Text" "sevens" "I", Cond.methodLink RX7 38 yX7_inAlphabet, Cond.instanceMethod yX7_inAlphabet, Cond.selects RX7 yX7_inAlphabet yX7_inAlphabet, Cond.code yX7_inAlphabet cX7_inAlphabet 1 (some .boolean), Cond.fieldLink RX7 28 "TextParts$Text" "outsiders" "I", Cond.methodLink RX7 35 yX7_partEnd, Cond.instanceMethod yX7_partEnd, Cond.selects RX7 yX7_partEnd yX7_partEnd]
def wsX8_make_r2 : List Cond := [Cond.code yX7_partEnd cX7_partEnd 2 (some .int), Cond.methodLink RX7 41 yX7_sevensEnd, Cond.instanceMethod yX7_sevensEnd, Cond.selects RX7 yX7_sevensEnd yX7_sevensEnd, Cond.code yX7_sevensEnd cX7_sevensEnd 4 (some .int), Cond.methodLink RX7 47 yX7_unitAt, Cond.instanceMethod yX7_unitAt, Cond.selects RX7 yX7_unitAt yX7_unitAt, Cond.code yX7_unitAt cX7_unitAt 2 (some .int), Cond.fieldLink RX7 9 "TextParts$Text" "units" "[I", Cond.methodLink RX7 19 yX0_sevensFor, Cond.static yX0_sevensFor, Cond.initialized RX0, Cond.code yX0_sevensFor cX0_sevensFor 1 (some .int), Cond.methodLink RX0 9 yX0_plainSeven, Cond.static yX0_plainSeven, Cond.code yX0_plainSeven cX0_plainSeven 1 (some .int), Cond.fieldLink RX0 22 "TextParts$Alphabet" "OTHER_UNITS" "[I", Cond.fieldLink RX0 26 "TextParts$Alphabet" "OTHER_SEVENS" "[I", Cond.methodLink RX0 18 yX0_isItsOwnSeven, Cond.static yX0_isItsOwnSeven, Cond.code yX0_isItsOwnSeven cX0_isItsOwnSeven 1 (some .boolean), Cond.methodLink RX0 29 yX0_partner, Cond.static yX0_partner]
def wsX8_make_r3 : List Cond := [Cond.code yX0_partner cX0_partner 4 (some .int), Cond.methodLink RX0 15 yX0_escapedSeven, Cond.static yX0_escapedSeven, Cond.code yX0_escapedSeven cX0_escapedSeven 1 (some .int), Cond.fieldLink RX0 33 "TextParts$Alphabet" "ESCAPED_UNITS" "[I", Cond.fieldLink RX0 36 "TextParts$Alphabet" "ESCAPED_SEVENS" "[I", Cond.methodLink RX7 44 yX7_pairsEnd, Cond.instanceMethod yX7_pairsEnd, Cond.selects RX7 yX7_pairsEnd yX7_pairsEnd, Cond.code yX7_pairsEnd cX7_pairsEnd 3 (some .int), Cond.methodLink RX7 50 yX7_isHigh, Cond.static yX7_isHigh, Cond.code yX7_isHigh cX7_isHigh 1 (some .boolean), Cond.constant RX7 57 (55296), Cond.constant RX7 58 (56319), Cond.methodLink RX7 54 yX7_isLow, Cond.static yX7_isLow, Cond.code yX7_isLow cX7_isLow 1 (some .boolean), Cond.constant RX7 59 (56320), Cond.constant RX7 60 (57343), Cond.methodLink RX8 94 yX3_build, Cond.instanceMethod yX3_build, Cond.selects RX3 yX3_build yX3_build, Cond.initialized RX3]
def wsX8_make_r4 : List Cond := [Cond.code yX3_build cX3_build 8 none, Cond.fieldLink RX3 11 "TextParts$Message" "rows" "[LTextParts$Row;", Cond.classLink RX3 9 RX6, Cond.instantiable RX6 2, Cond.initialized RX6, Cond.fieldLink RX3 30 "TextParts$Text" "count" "I", Cond.fieldLink RX3 17 "TextParts$Message" "partCount" "I", Cond.methodLink RX3 21 yX6_init, Cond.instanceMethod yX6_init, Cond.code yX6_init cX6_init 2 none, Cond.methodLink RX6 3 objectInit, Cond.instanceMethod objectInit, Cond.code objectInit ⟨#[0xb1]⟩ 1 none, Cond.arrayClass .int, Cond.fieldLink RX6 9 "TextParts$Row" "bytes" "[I", Cond.methodLink RX3 24 yX7_partEnd, Cond.methodLink RX3 33 yX7_inAlphabet, Cond.methodLink RX3 37 yX3_writeSevens, Cond.static yX3_writeSevens, Cond.code yX3_writeSevens cX3_writeSevens 10 none, Cond.methodLink RX3 48 yX7_sevensBetween, Cond.instanceMethod yX7_sevensBetween, Cond.selects RX7 yX7_sevensBetween yX7_sevensBetween, Cond.code yX7_sevensBetween cX7_sevensBetween 5 (some .int)]
def wsX8_make_r5 : List Cond := [Cond.static yX8_bytesForSevens, Cond.initialized RX8, Cond.code yX8_bytesForSevens cX8_bytesForSevens 1 (some .int), Cond.methodLink RX3 55 yX6_restart, Cond.instanceMethod yX6_restart, Cond.selects RX6 yX6_restart yX6_restart, Cond.code yX6_restart cX6_restart 2 none, Cond.methodLink RX6 21 Lib.Math.min.name, Cond.static Lib.Math.min.name, Cond.initialized "java/lang/Math", Cond.code Lib.Math.min.name Lib.Math.min.code 2 (some .int), Cond.methodLink RX6 27 Lib.Math.max.name, Cond.static Lib.Math.max.name, Cond.code Lib.Math.max.name Lib.Math.max.code 2 (some .int), Cond.fieldLink RX6 30 "TextParts$Row" "size" "I", Cond.methodLink RX6 15 yJ7_fill_53178, Cond.static yJ7_fill_53178, Cond.initialized RJ7, Cond.code yJ7_fill_53178 cJ7_fill_53178 4 none, Cond.methodLink RX3 58 yX6_setByte, Cond.instanceMethod yX6_setByte, Cond.selects RX6 yX6_setByte yX6_setByte, Cond.code yX6_setByte cX6_setByte 3 none, Cond.methodLink RX3 62 yX7_unitAt]
def wsX8_make_r6 : List Cond := [Cond.methodLink RX3 65 yX0_plainSeven, Cond.methodLink RX3 70 yX6_addSeven, Cond.instanceMethod yX6_addSeven, Cond.selects RX6 yX6_addSeven yX6_addSeven, Cond.code yX6_addSeven cX6_addSeven 5 none, Cond.methodLink RX6 34 yX6_byteOrZero, Cond.instanceMethod yX6_byteOrZero, Cond.selects RX6 yX6_byteOrZero yX6_byteOrZero, Cond.code yX6_byteOrZero cX6_byteOrZero 2 (some .int), Cond.methodLink RX6 42 yX6_byteAt, Cond.instanceMethod yX6_byteAt, Cond.selects RX6 yX6_byteAt yX6_byteAt, Cond.code yX6_byteAt cX6_byteAt 2 (some .int), Cond.methodLink RX6 38 yX6_setByte, Cond.methodLink RX3 73 yX0_escapedSeven, Cond.methodLink RX3 41 yX3_writePairs, Cond.static yX3_writePairs, Cond.code yX3_writePairs cX3_writePairs 8 none, Cond.methodLink RX3 44 yX3_writeHeader, Cond.static yX3_writeHeader, Cond.code yX3_writeHeader cX3_writeHeader 4 none]
def wsX8_make : List Cond := .code yX8_make cX8_make 2 (some .int) :: ((wsX8_make_r1 ++ (wsX8_make_r2 ++ (wsX8_make_r3 ++ (wsX8_make_r4 ++ (wsX8_make_r5 ++ wsX8_make_r6))))) ++ wsX80 ++ wsX70 ++ wsX30 ++ wsX60 ++ (vx_atS RX8 93 "java/lang/UnsupportedOperationException" ["java/lang/RuntimeException", "java/lang/Exception"]).filter goodWord)
def wsX8_length : List Cond := .code yX8_length cX8_length 3 (some .int) :: ([.classLink RX8 44 "java/lang/IllegalArgumentException", .initialized "java/lang/IllegalArgumentException", .fieldLink RX8 19 "TextParts" "made" "LTextParts$Message;", .fieldLink RX8 84 "TextParts$Row" "size" "I", .methodLink RX8 98 yX3_rowOf, .instanceMethod yX3_rowOf, .selects RX3 yX3_rowOf yX3_rowOf, .initialized RX3, .code yX3_rowOf cX3_rowOf 2 (some (.object "TextParts$Row")), .fieldLink RX3 17 "TextParts$Message" "partCount" "I", .fieldLink RX3 11 "TextParts$Message" "rows" "[LTextParts$Row;"] ++ wsX80 ++ wsX60 ++ wsX30 ++ (vx_atS RX8 48 "java/lang/IllegalArgumentException" ["java/lang/RuntimeException", "java/lang/Exception"]).filter goodWord)
def wsX8_byteOf : List Cond := .code yX8_byteOf cX8_byteOf 4 (some .int) :: ([.classLink RX8 44 "java/lang/IllegalArgumentException", .initialized "java/lang/IllegalArgumentException", .fieldLink RX8 19 "TextParts" "made" "LTextParts$Message;", .methodLink RX8 98 yX3_rowOf, .instanceMethod yX3_rowOf, .selects RX3 yX3_rowOf yX3_rowOf, .initialized RX3, .code yX3_rowOf cX3_rowOf 2 (some (.object "TextParts$Row")), .fieldLink RX3 17 "TextParts$Message" "partCount" "I", .fieldLink RX3 11 "TextParts$Message" "rows" "[LTextParts$Row;", .methodLink RX8 104 yX6_byteAt, .instanceMethod yX6_byteAt, .selects RX6 yX6_byteAt yX6_byteAt, .initialized RX6, .code yX6_byteAt cX6_byteAt 2 (some .int), .fieldLink RX6 30 "TextParts$Row" "size" "I", .fieldLink RX6 9 "TextParts$Row" "bytes" "[I"] ++ wsX80 ++ wsX30 ++ wsX60 ++ (vx_atS RX8 48 "java/lang/IllegalArgumentException" ["java/lang/RuntimeException", "java/lang/Exception"]).filter goodWord)
def wsX8_isSender : List Cond := .code yX8_isSender cX8_isSender 1 (some .boolean) :: ([])
def wsX8_take_r1 : List Cond := [Cond.classLink RX8 44 "java/lang/IllegalArgumentException", Cond.initialized "java/lang/IllegalArgumentException", Cond.fieldLink RX8 19 "TextParts" "made" "LTextParts$Message;", Cond.fieldLink RX8 35 "TextParts" "inbox" "LTextParts$Inbox;", Cond.methodLink RX8 98 yX3_rowOf, Cond.instanceMethod yX3_rowOf, Cond.selects RX3 yX3_rowOf yX3_rowOf, Cond.initialized RX3, Cond.code yX3_rowOf cX3_rowOf 2 (some (.object "TextParts$Row")), Cond.fieldLink RX3 17 "TextParts$Message" "partCount" "I", Cond.fieldLink RX3 11 "TextParts$Message" "rows" "[LTextParts$Row;", Cond.methodLink RX8 108 yX8_isSender, Cond.static yX8_isSender, Cond.initialized RX8, Cond.code yX8_isSender cX8_isSender 1 (some .boolean), Cond.methodLink RX8 114 yX2_accept, Cond.instanceMethod yX2_accept, Cond.selects RX2 yX2_accept yX2_accept, Cond.initialized RX2, Cond.code yX2_accept cX2_accept 5 (some .int), Cond.fieldLink RX2 12 "TextParts$Inbox" "reader" "LTextParts$PartReader;", Cond.fieldLink RX2 32 "TextParts$PartReader" "headed" "Z", Cond.classLink RX2 18 RX1, Cond.instantiable RX1 6]
def wsX8_take_r2 : List Cond := [Cond.initialized RX1, Cond.fieldLink RX2 43 "TextParts$Inbox" "latest" "LTextParts$Heap;", Cond.methodLink RX2 24 yX4_faultOf, Cond.instanceMethod yX4_faultOf, Cond.selects RX4 yX4_faultOf yX4_faultOf, Cond.initialized RX4, Cond.code yX4_faultOf cX4_faultOf 3 (some .int), Cond.fieldLink RX4 15 "TextParts$Row" "size" "I", Cond.fieldLink RX4 25 "TextParts$PartReader" "headed" "Z", Cond.fieldLink RX4 29 "TextParts$PartReader" "byPairs" "Z", Cond.fieldLink RX4 32 "TextParts$PartReader" "held" "I", Cond.methodLink RX4 21 yX6_byteAt, Cond.instanceMethod yX6_byteAt, Cond.selects RX6 yX6_byteAt yX6_byteAt, Cond.initialized RX6, Cond.code yX6_byteAt cX6_byteAt 2 (some .int), Cond.fieldLink RX6 30 "TextParts$Row" "size" "I", Cond.fieldLink RX6 9 "TextParts$Row" "bytes" "[I", Cond.methodLink RX4 35 yX4_isWrongSize, Cond.instanceMethod yX4_isWrongSize, Cond.selects RX4 yX4_isWrongSize yX4_isWrongSize, Cond.code yX4_isWrongSize cX4_isWrongSize 2 (some .boolean), Cond.static yX8_bytesForSevens, Cond.code yX8_bytesForSevens cX8_bytesForSevens 1 (some .int)]
def wsX8_take_r3 : List Cond := [Cond.methodLink RX4 39 yX4_isWrongHeader, Cond.instanceMethod yX4_isWrongHeader, Cond.selects RX4 yX4_isWrongHeader yX4_isWrongHeader, Cond.code yX4_isWrongHeader cX4_isWrongHeader 3 (some .boolean), Cond.fieldLink RX4 62 "TextParts$PartReader" "reference" "I", Cond.fieldLink RX4 65 "TextParts$PartReader" "parts" "I", Cond.fieldLink RX4 68 "TextParts$PartReader" "number" "I", Cond.methodLink RX4 43 yX4_hasStrayBits, Cond.instanceMethod yX4_hasStrayBits, Cond.selects RX4 yX4_hasStrayBits yX4_hasStrayBits, Cond.code yX4_hasStrayBits cX4_hasStrayBits 4 (some .boolean), Cond.methodLink RX4 71 yX6_isBitSet, Cond.instanceMethod yX6_isBitSet, Cond.selects RX6 yX6_isBitSet yX6_isBitSet, Cond.code yX6_isBitSet cX6_isBitSet 2 (some .boolean), Cond.methodLink RX6 34 yX6_byteOrZero, Cond.instanceMethod yX6_byteOrZero, Cond.selects RX6 yX6_byteOrZero yX6_byteOrZero, Cond.code yX6_byteOrZero cX6_byteOrZero 2 (some .int), Cond.methodLink RX6 27 Lib.Math.max.name, Cond.static Lib.Math.max.name, Cond.initialized "java/lang/Math", Cond.code Lib.Math.max.name Lib.Math.max.code 2 (some .int), Cond.methodLink RX6 42 yX6_byteAt]
def wsX8_take_r4 : List Cond := [Cond.methodLink RX2 28 yX4_unitsOf, Cond.instanceMethod yX4_unitsOf, Cond.selects RX4 yX4_unitsOf yX4_unitsOf, Cond.code yX4_unitsOf cX4_unitsOf 3 (some (.array .int)), Cond.fieldLink RX4 9 "TextParts$PartReader" "units" "[I", Cond.methodLink RX4 46 yX4_collectPairs, Cond.instanceMethod yX4_collectPairs, Cond.selects RX4 yX4_collectPairs yX4_collectPairs, Cond.code yX4_collectPairs cX4_collectPairs 4 (some .int), Cond.methodLink RX4 50 yX4_collectSevens, Cond.instanceMethod yX4_collectSevens, Cond.selects RX4 yX4_collectSevens yX4_collectSevens, Cond.code yX4_collectSevens cX4_collectSevens 5 (some .int), Cond.methodLink RX4 74 yX6_sevenAt, Cond.instanceMethod yX6_sevenAt, Cond.selects RX6 yX6_sevenAt yX6_sevenAt, Cond.code yX6_sevenAt cX6_sevenAt 4 (some .int), Cond.methodLink RX4 79 yX0_escapedUnit, Cond.static yX0_escapedUnit, Cond.initialized RX0, Cond.code yX0_escapedUnit cX0_escapedUnit 2 (some .int), Cond.fieldLink RX0 36 "TextParts$Alphabet" "ESCAPED_SEVENS" "[I", Cond.fieldLink RX0 33 "TextParts$Alphabet" "ESCAPED_UNITS" "[I", Cond.methodLink RX0 29 yX0_partner]
def wsX8_take_r5 : List Cond := [Cond.static yX0_partner, Cond.code yX0_partner cX0_partner 4 (some .int), Cond.methodLink RX0 39 yX0_plainUnit, Cond.static yX0_plainUnit, Cond.code yX0_plainUnit cX0_plainUnit 2 (some .int), Cond.fieldLink RX0 26 "TextParts$Alphabet" "OTHER_SEVENS" "[I", Cond.fieldLink RX0 22 "TextParts$Alphabet" "OTHER_UNITS" "[I", Cond.methodLink RX0 18 yX0_isItsOwnSeven, Cond.static yX0_isItsOwnSeven, Cond.code yX0_isItsOwnSeven cX0_isItsOwnSeven 1 (some .boolean), Cond.methodLink RX4 82 yX0_plainUnit, Cond.methodLink RX4 53 yJ7_copyOf_59c91, Cond.static yJ7_copyOf_59c91, Cond.initialized RJ7, Cond.code yJ7_copyOf_59c91 cJ7_copyOf_59c91 3 (some (.array .int)), Cond.methodLink RJ7 316 ⟨"[I", "clone", "()Ljava/lang/Object;"⟩, Cond.sameMethod "[I" "java/lang/Object" "clone" "()Ljava/lang/Object;", Cond.native ⟨"java/lang/Object", "clone", "()Ljava/lang/Object;"⟩, Cond.instanceMethod ⟨"java/lang/Object", "clone", "()Ljava/lang/Object;"⟩, Cond.selects "[I" ⟨"[I", "clone", "()Ljava/lang/Object;"⟩ ⟨"java/lang/Object", "clone", "()Ljava/lang/Object;"⟩, Cond.classLink RJ7 317 "[I", Cond.arrayClass .int, Cond.methodLink RJ7 304 Lib.Math.min.name, Cond.static Lib.Math.min.name]
def wsX8_take_r6 : List Cond := [Cond.code Lib.Math.min.name Lib.Math.min.code 2 (some .int), Cond.methodLink RJ7 150 arraycopyName, Cond.native arraycopyName, Cond.static arraycopyName, Cond.initialized "java/lang/System", Cond.methodLink RX2 36 yX2_keep, Cond.instanceMethod yX2_keep, Cond.selects RX2 yX2_keep yX2_keep, Cond.code yX2_keep cX2_keep 5 (some .boolean), Cond.fieldLink RX2 20 "TextParts$Inbox" "heaps" "[LTextParts$Heap;", Cond.fieldLink RX2 78 "TextParts$PartReader" "number" "I", Cond.fieldLink RX2 81 "TextParts$Inbox" "puts" "I", Cond.fieldLink RX2 84 "TextParts$Heap" "lastPut" "I", Cond.methodLink RX2 72 yX2_placeOf, Cond.instanceMethod yX2_placeOf, Cond.selects RX2 yX2_placeOf yX2_placeOf, Cond.code yX2_placeOf cX2_placeOf 3 (some .int), Cond.fieldLink RX2 58 "TextParts$Inbox" "heapCount" "I", Cond.fieldLink RX2 91 "TextParts$PartReader" "reference" "I", Cond.fieldLink RX2 94 "TextParts$PartReader" "parts" "I", Cond.methodLink RX2 97 yX1_isOf, Cond.instanceMethod yX1_isOf, Cond.selects RX1 yX1_isOf yX1_isOf, Cond.code yX1_isOf cX1_isOf 4 (some .boolean)]
def wsX8_take_r7 : List Cond := [Cond.fieldLink RX1 9 "TextParts$Heap" "sender" "I", Cond.fieldLink RX1 15 "TextParts$Heap" "reference" "I", Cond.fieldLink RX1 26 "TextParts$Heap" "pieces" "[LTextParts$Piece;", Cond.methodLink RX2 75 yX2_begin, Cond.instanceMethod yX2_begin, Cond.selects RX2 yX2_begin yX2_begin, Cond.code yX2_begin cX2_begin 3 (some .int), Cond.methodLink RX2 105 Lib.Math.min.name, Cond.methodLink RX2 110 Lib.Math.max.name, Cond.methodLink RX2 101 yX2_longestUntouched, Cond.instanceMethod yX2_longestUntouched, Cond.selects RX2 yX2_longestUntouched yX2_longestUntouched, Cond.code yX2_longestUntouched cX2_longestUntouched 3 (some .int), Cond.methodLink RX2 68 yX2_removeHeap, Cond.instanceMethod yX2_removeHeap, Cond.selects RX2 yX2_removeHeap yX2_removeHeap, Cond.code yX2_removeHeap cX2_removeHeap 3 none, Cond.methodLink RX2 40 yX1_init, Cond.instanceMethod yX1_init, Cond.code yX1_init cX1_init 4 none, Cond.methodLink RX1 3 objectInit, Cond.instanceMethod objectInit, Cond.code objectInit ⟨#[0xb1]⟩ 1 none, Cond.methodLink RX1 18 Lib.Math.max.name]
def wsX8_take_r8 : List Cond := [Cond.classLink RX1 24 RX5, Cond.methodLink RX2 47 yX1_add, Cond.instanceMethod yX1_add, Cond.selects RX1 yX1_add yX1_add, Cond.code yX1_add cX1_add 3 (some .boolean), Cond.instantiable RX5 1, Cond.initialized RX5, Cond.fieldLink RX1 30 "TextParts$Heap" "there" "I", Cond.fieldLink RX1 36 "TextParts$Heap" "unitCount" "I", Cond.methodLink RX1 33 yX5_init, Cond.instanceMethod yX5_init, Cond.code yX5_init cX5_init 2 none, Cond.methodLink RX5 1 objectInit, Cond.fieldLink RX5 7 "TextParts$Piece" "units" "[I", Cond.methodLink RX2 87 yX1_isWhole, Cond.instanceMethod yX1_isWhole, Cond.selects RX1 yX1_isWhole yX1_isWhole, Cond.code yX1_isWhole cX1_isWhole 1 (some .boolean)]
def wsX8_take : List Cond := .code yX8_take cX8_take 4 (some .int) :: ((wsX8_take_r1 ++ (wsX8_take_r2 ++ (wsX8_take_r3 ++ (wsX8_take_r4 ++ (wsX8_take_r5 ++ (wsX8_take_r6 ++ (wsX8_take_r7 ++ wsX8_take_r8))))))) ++ wsX80 ++ wsX30 ++ wsX20 ++ wsX40 ++ wsX10 ++ wsX60 ++ wsX50 ++ (vx_atS RX8 48 "java/lang/IllegalArgumentException" ["java/lang/RuntimeException", "java/lang/Exception"]).filter goodWord)
def wsX8_alter : List Cond := .code yX8_alter cX8_alter 6 (some .int) :: ([.classLink RX8 44 "java/lang/IllegalArgumentException", .initialized "java/lang/IllegalArgumentException", .fieldLink RX8 19 "TextParts" "made" "LTextParts$Message;", .methodLink RX8 98 yX3_rowOf, .instanceMethod yX3_rowOf, .selects RX3 yX3_rowOf yX3_rowOf, .initialized RX3, .code yX3_rowOf cX3_rowOf 2 (some (.object "TextParts$Row")), .fieldLink RX3 17 "TextParts$Message" "partCount" "I", .fieldLink RX3 11 "TextParts$Message" "rows" "[LTextParts$Row;", .methodLink RX8 104 yX6_byteAt, .instanceMethod yX6_byteAt, .selects RX6 yX6_byteAt yX6_byteAt, .initialized RX6, .code yX6_byteAt cX6_byteAt 2 (some .int), .fieldLink RX6 30 "TextParts$Row" "size" "I", .fieldLink RX6 9 "TextParts$Row" "bytes" "[I", .methodLink RX8 120 yX6_setByte, .instanceMethod yX6_setByte, .selects RX6 yX6_setByte yX6_setByte, .code yX6_setByte cX6_setByte 3 none] ++ wsX80 ++ wsX30 ++ wsX60 ++ (vx_atS RX8 48 "java/lang/IllegalArgumentException" ["java/lang/RuntimeException", "java/lang/Exception"]).filter goodWord)
def wsX8_feed : List Cond := .code yX8_feed cX8_feed 5 (some .int) :: ([.classLink RX8 44 "java/lang/IllegalArgumentException", .initialized "java/lang/IllegalArgumentException", .classLink RX8 54 "java/lang/IllegalStateException", .initialized "java/lang/IllegalStateException", .fieldLink RX8 28 "TextParts" "atHand" "LTextParts$Row;", .fieldLink RX8 84 "TextParts$Row" "size" "I", .methodLink RX8 128 yX6_append, .instanceMethod yX6_append, .selects RX6 yX6_append yX6_append, .initialized RX6, .code yX6_append cX6_append 2 none, .fieldLink RX6 30 "TextParts$Row" "size" "I", .fieldLink RX6 9 "TextParts$Row" "bytes" "[I"] ++ wsX80 ++ wsX60 ++ (vx_atS RX8 48 "java/lang/IllegalArgumentException" ["java/lang/RuntimeException", "java/lang/Exception"]).filter goodWord ++ (vx_atS RX8 58 "java/lang/IllegalStateException" ["java/lang/RuntimeException", "java/lang/Exception"]).filter goodWord)
def wsX8_read_r1 : List Cond := [Cond.classLink RX8 44 "java/lang/IllegalArgumentException", Cond.initialized "java/lang/IllegalArgumentException", Cond.fieldLink RX8 35 "TextParts" "inbox" "LTextParts$Inbox;", Cond.fieldLink RX8 28 "TextParts" "atHand" "LTextParts$Row;", Cond.methodLink RX8 108 yX8_isSender, Cond.static yX8_isSender, Cond.initialized RX8, Cond.code yX8_isSender cX8_isSender 1 (some .boolean), Cond.methodLink RX8 114 yX2_accept, Cond.instanceMethod yX2_accept, Cond.selects RX2 yX2_accept yX2_accept, Cond.initialized RX2, Cond.code yX2_accept cX2_accept 5 (some .int), Cond.fieldLink RX2 12 "TextParts$Inbox" "reader" "LTextParts$PartReader;", Cond.fieldLink RX2 32 "TextParts$PartReader" "headed" "Z", Cond.classLink RX2 18 RX1, Cond.instantiable RX1 6, Cond.initialized RX1, Cond.fieldLink RX2 43 "TextParts$Inbox" "latest" "LTextParts$Heap;", Cond.methodLink RX2 24 yX4_faultOf, Cond.instanceMethod yX4_faultOf, Cond.selects RX4 yX4_faultOf yX4_faultOf, Cond.initialized RX4, Cond.code yX4_faultOf cX4_faultOf 3 (some .int)]
def wsX8_read_r2 : List Cond := [Cond.fieldLink RX4 15 "TextParts$Row" "size" "I", Cond.fieldLink RX4 25 "TextParts$PartReader" "headed" "Z", Cond.fieldLink RX4 29 "TextParts$PartReader" "byPairs" "Z", Cond.fieldLink RX4 32 "TextParts$PartReader" "held" "I", Cond.methodLink RX4 21 yX6_byteAt, Cond.instanceMethod yX6_byteAt, Cond.selects RX6 yX6_byteAt yX6_byteAt, Cond.initialized RX6, Cond.code yX6_byteAt cX6_byteAt 2 (some .int), Cond.fieldLink RX6 30 "TextParts$Row" "size" "I", Cond.fieldLink RX6 9 "TextParts$Row" "bytes" "[I", Cond.methodLink RX4 35 yX4_isWrongSize, Cond.instanceMethod yX4_isWrongSize, Cond.selects RX4 yX4_isWrongSize yX4_isWrongSize, Cond.code yX4_isWrongSize cX4_isWrongSize 2 (some .boolean), Cond.static yX8_bytesForSevens, Cond.code yX8_bytesForSevens cX8_bytesForSevens 1 (some .int), Cond.methodLink RX4 39 yX4_isWrongHeader, Cond.instanceMethod yX4_isWrongHeader, Cond.selects RX4 yX4_isWrongHeader yX4_isWrongHeader, Cond.code yX4_isWrongHeader cX4_isWrongHeader 3 (some .boolean), Cond.fieldLink RX4 62 "TextParts$PartReader" "reference" "I", Cond.fieldLink RX4 65 "TextParts$PartReader" "parts" "I", Cond.fieldLink RX4 68 "TextParts$PartReader" "number" "I"]
def wsX8_read_r3 : List Cond := [Cond.methodLink RX4 43 yX4_hasStrayBits, Cond.instanceMethod yX4_hasStrayBits, Cond.selects RX4 yX4_hasStrayBits yX4_hasStrayBits, Cond.code yX4_hasStrayBits cX4_hasStrayBits 4 (some .boolean), Cond.methodLink RX4 71 yX6_isBitSet, Cond.instanceMethod yX6_isBitSet, Cond.selects RX6 yX6_isBitSet yX6_isBitSet, Cond.code yX6_isBitSet cX6_isBitSet 2 (some .boolean), Cond.methodLink RX6 34 yX6_byteOrZero, Cond.instanceMethod yX6_byteOrZero, Cond.selects RX6 yX6_byteOrZero yX6_byteOrZero, Cond.code yX6_byteOrZero cX6_byteOrZero 2 (some .int), Cond.methodLink RX6 27 Lib.Math.max.name, Cond.static Lib.Math.max.name, Cond.initialized "java/lang/Math", Cond.code Lib.Math.max.name Lib.Math.max.code 2 (some .int), Cond.methodLink RX6 42 yX6_byteAt, Cond.methodLink RX2 28 yX4_unitsOf, Cond.instanceMethod yX4_unitsOf, Cond.selects RX4 yX4_unitsOf yX4_unitsOf, Cond.code yX4_unitsOf cX4_unitsOf 3 (some (.array .int)), Cond.fieldLink RX4 9 "TextParts$PartReader" "units" "[I", Cond.methodLink RX4 46 yX4_collectPairs, Cond.instanceMethod yX4_collectPairs]
def wsX8_read_r4 : List Cond := [Cond.selects RX4 yX4_collectPairs yX4_collectPairs, Cond.code yX4_collectPairs cX4_collectPairs 4 (some .int), Cond.methodLink RX4 50 yX4_collectSevens, Cond.instanceMethod yX4_collectSevens, Cond.selects RX4 yX4_collectSevens yX4_collectSevens, Cond.code yX4_collectSevens cX4_collectSevens 5 (some .int), Cond.methodLink RX4 74 yX6_sevenAt, Cond.instanceMethod yX6_sevenAt, Cond.selects RX6 yX6_sevenAt yX6_sevenAt, Cond.code yX6_sevenAt cX6_sevenAt 4 (some .int), Cond.methodLink RX4 79 yX0_escapedUnit, Cond.static yX0_escapedUnit, Cond.initialized RX0, Cond.code yX0_escapedUnit cX0_escapedUnit 2 (some .int), Cond.fieldLink RX0 36 "TextParts$Alphabet" "ESCAPED_SEVENS" "[I", Cond.fieldLink RX0 33 "TextParts$Alphabet" "ESCAPED_UNITS" "[I", Cond.methodLink RX0 29 yX0_partner, Cond.static yX0_partner, Cond.code yX0_partner cX0_partner 4 (some .int), Cond.methodLink RX0 39 yX0_plainUnit, Cond.static yX0_plainUnit, Cond.code yX0_plainUnit cX0_plainUnit 2 (some .int), Cond.fieldLink RX0 26 "TextParts$Alphabet" "OTHER_SEVENS" "[I", Cond.fieldLink RX0 22 "TextParts$Alphabet" "OTHER_UNITS" "[I"]
def wsX8_read_r5 : List Cond := [Cond.methodLink RX0 18 yX0_isItsOwnSeven, Cond.static yX0_isItsOwnSeven, Cond.code yX0_isItsOwnSeven cX0_isItsOwnSeven 1 (some .boolean), Cond.methodLink RX4 82 yX0_plainUnit, Cond.methodLink RX4 53 yJ7_copyOf_59c91, Cond.static yJ7_copyOf_59c91, Cond.initialized RJ7, Cond.code yJ7_copyOf_59c91 cJ7_copyOf_59c91 3 (some (.array .int)), Cond.methodLink RJ7 316 ⟨"[I", "clone", "()Ljava/lang/Object;"⟩, Cond.sameMethod "[I" "java/lang/Object" "clone" "()Ljava/lang/Object;", Cond.native ⟨"java/lang/Object", "clone", "()Ljava/lang/Object;"⟩, Cond.instanceMethod ⟨"java/lang/Object", "clone", "()Ljava/lang/Object;"⟩, Cond.selects "[I" ⟨"[I", "clone", "()Ljava/lang/Object;"⟩ ⟨"java/lang/Object", "clone", "()Ljava/lang/Object;"⟩, Cond.classLink RJ7 317 "[I", Cond.arrayClass .int, Cond.methodLink RJ7 304 Lib.Math.min.name, Cond.static Lib.Math.min.name, Cond.code Lib.Math.min.name Lib.Math.min.code 2 (some .int), Cond.methodLink RJ7 150 arraycopyName, Cond.native arraycopyName, Cond.static arraycopyName, Cond.initialized "java/lang/System", Cond.methodLink RX2 36 yX2_keep, Cond.instanceMethod yX2_keep]
def wsX8_read_r6 : List Cond := [Cond.selects RX2 yX2_keep yX2_keep, Cond.code yX2_keep cX2_keep 5 (some .boolean), Cond.fieldLink RX2 20 "TextParts$Inbox" "heaps" "[LTextParts$Heap;", Cond.fieldLink RX2 78 "TextParts$PartReader" "number" "I", Cond.fieldLink RX2 81 "TextParts$Inbox" "puts" "I", Cond.fieldLink RX2 84 "TextParts$Heap" "lastPut" "I", Cond.methodLink RX2 72 yX2_placeOf, Cond.instanceMethod yX2_placeOf, Cond.selects RX2 yX2_placeOf yX2_placeOf, Cond.code yX2_placeOf cX2_placeOf 3 (some .int), Cond.fieldLink RX2 58 "TextParts$Inbox" "heapCount" "I", Cond.fieldLink RX2 91 "TextParts$PartReader" "reference" "I", Cond.fieldLink RX2 94 "TextParts$PartReader" "parts" "I", Cond.methodLink RX2 97 yX1_isOf, Cond.instanceMethod yX1_isOf, Cond.selects RX1 yX1_isOf yX1_isOf, Cond.code yX1_isOf cX1_isOf 4 (some .boolean), Cond.fieldLink RX1 9 "TextParts$Heap" "sender" "I", Cond.fieldLink RX1 15 "TextParts$Heap" "reference" "I", Cond.fieldLink RX1 26 "TextParts$Heap" "pieces" "[LTextParts$Piece;", Cond.methodLink RX2 75 yX2_begin, Cond.instanceMethod yX2_begin, Cond.selects RX2 yX2_begin yX2_begin, Cond.code yX2_begin cX2_begin 3 (some .int)]
def wsX8_read_r7 : List Cond := [Cond.methodLink RX2 105 Lib.Math.min.name, Cond.methodLink RX2 110 Lib.Math.max.name, Cond.methodLink RX2 101 yX2_longestUntouched, Cond.instanceMethod yX2_longestUntouched, Cond.selects RX2 yX2_longestUntouched yX2_longestUntouched, Cond.code yX2_longestUntouched cX2_longestUntouched 3 (some .int), Cond.methodLink RX2 68 yX2_removeHeap, Cond.instanceMethod yX2_removeHeap, Cond.selects RX2 yX2_removeHeap yX2_removeHeap, Cond.code yX2_removeHeap cX2_removeHeap 3 none, Cond.methodLink RX2 40 yX1_init, Cond.instanceMethod yX1_init, Cond.code yX1_init cX1_init 4 none, Cond.methodLink RX1 3 objectInit, Cond.instanceMethod objectInit, Cond.code objectInit ⟨#[0xb1]⟩ 1 none, Cond.methodLink RX1 18 Lib.Math.max.name, Cond.classLink RX1 24 RX5, Cond.methodLink RX2 47 yX1_add, Cond.instanceMethod yX1_add, Cond.selects RX1 yX1_add yX1_add, Cond.code yX1_add cX1_add 3 (some .boolean), Cond.instantiable RX5 1, Cond.initialized RX5]
def wsX8_read_r8 : List Cond := [Cond.fieldLink RX1 30 "TextParts$Heap" "there" "I", Cond.fieldLink RX1 36 "TextParts$Heap" "unitCount" "I", Cond.methodLink RX1 33 yX5_init, Cond.instanceMethod yX5_init, Cond.code yX5_init cX5_init 2 none, Cond.methodLink RX5 1 objectInit, Cond.fieldLink RX5 7 "TextParts$Piece" "units" "[I", Cond.methodLink RX2 87 yX1_isWhole, Cond.instanceMethod yX1_isWhole, Cond.selects RX1 yX1_isWhole yX1_isWhole, Cond.code yX1_isWhole cX1_isWhole 1 (some .boolean), Cond.methodLink RX8 131 yX6_restart, Cond.instanceMethod yX6_restart, Cond.selects RX6 yX6_restart yX6_restart, Cond.code yX6_restart cX6_restart 2 none, Cond.methodLink RX6 21 Lib.Math.min.name, Cond.methodLink RX6 15 yJ7_fill_53178, Cond.static yJ7_fill_53178, Cond.code yJ7_fill_53178 cJ7_fill_53178 4 none]
def wsX8_read : List Cond := .code yX8_read cX8_read 3 (some .int) :: ((wsX8_read_r1 ++ (wsX8_read_r2 ++ (wsX8_read_r3 ++ (wsX8_read_r4 ++ (wsX8_read_r5 ++ (wsX8_read_r6 ++ (wsX8_read_r7 ++ wsX8_read_r8))))))) ++ wsX80 ++ wsX20 ++ wsX40 ++ wsX10 ++ wsX60 ++ wsX50 ++ (vx_atS RX8 48 "java/lang/IllegalArgumentException" ["java/lang/RuntimeException", "java/lang/Exception"]).filter goodWord)
def wsX8_unit : List Cond := .code yX8_unit cX8_unit 2 (some .int) :: ([.fieldLink RX8 35 "TextParts" "inbox" "LTextParts$Inbox;", .methodLink RX8 134 yX2_latestUnit, .instanceMethod yX2_latestUnit, .selects RX2 yX2_latestUnit yX2_latestUnit, .initialized RX2, .code yX2_latestUnit cX2_latestUnit 2 (some .int), .fieldLink RX2 43 "TextParts$Inbox" "latest" "LTextParts$Heap;", .methodLink RX2 54 yX1_unitAt, .instanceMethod yX1_unitAt, .selects RX1 yX1_unitAt yX1_unitAt, .initialized RX1, .code yX1_unitAt cX1_unitAt 7 (some .int), .fieldLink RX1 26 "TextParts$Heap" "pieces" "[LTextParts$Piece;", .fieldLink RX1 39 "TextParts$Piece" "units" "[I"] ++ wsX80 ++ wsX20 ++ wsX10 ++ wsX50)
def wsX8_heap : List Cond := .code yX8_heap cX8_heap 3 (some .int) :: ([.classLink RX8 44 "java/lang/IllegalArgumentException", .initialized "java/lang/IllegalArgumentException", .fieldLink RX8 35 "TextParts" "inbox" "LTextParts$Inbox;", .methodLink RX8 139 yX2_aboutHeap, .instanceMethod yX2_aboutHeap, .selects RX2 yX2_aboutHeap yX2_aboutHeap, .initialized RX2, .code yX2_aboutHeap cX2_aboutHeap 3 (some .int), .fieldLink RX2 58 "TextParts$Inbox" "heapCount" "I", .fieldLink RX2 20 "TextParts$Inbox" "heaps" "[LTextParts$Heap;", .methodLink RX2 61 yX1_tell, .instanceMethod yX1_tell, .selects RX1 yX1_tell yX1_tell, .initialized RX1, .code yX1_tell cX1_tell 2 (some .int), .fieldLink RX1 9 "TextParts$Heap" "sender" "I", .fieldLink RX1 15 "TextParts$Heap" "reference" "I", .fieldLink RX1 26 "TextParts$Heap" "pieces" "[LTextParts$Piece;", .fieldLink RX1 30 "TextParts$Heap" "there" "I"] ++ wsX80 ++ wsX20 ++ wsX10 ++ (vx_atS RX8 48 "java/lang/IllegalArgumentException" ["java/lang/RuntimeException", "java/lang/Exception"]).filter goodWord)
def wsX8_forget_r1 : List Cond := [Cond.classLink RX8 44 "java/lang/IllegalArgumentException", Cond.initialized "java/lang/IllegalArgumentException", Cond.fieldLink RX8 35 "TextParts" "inbox" "LTextParts$Inbox;", Cond.methodLink RX8 108 yX8_isSender, Cond.static yX8_isSender, Cond.initialized RX8, Cond.code yX8_isSender cX8_isSender 1 (some .boolean), Cond.methodLink RX8 143 yX2_dropSender, Cond.instanceMethod yX2_dropSender, Cond.selects RX2 yX2_dropSender yX2_dropSender, Cond.initialized RX2, Cond.code yX2_dropSender cX2_dropSender 4 (some .int), Cond.fieldLink RX2 58 "TextParts$Inbox" "heapCount" "I", Cond.methodLink RX2 64 yX2_aboutHeap, Cond.instanceMethod yX2_aboutHeap, Cond.selects RX2 yX2_aboutHeap yX2_aboutHeap, Cond.code yX2_aboutHeap cX2_aboutHeap 3 (some .int), Cond.fieldLink RX2 20 "TextParts$Inbox" "heaps" "[LTextParts$Heap;", Cond.methodLink RX2 61 yX1_tell, Cond.instanceMethod yX1_tell, Cond.selects RX1 yX1_tell yX1_tell, Cond.initialized RX1, Cond.code yX1_tell cX1_tell 2 (some .int), Cond.fieldLink RX1 9 "TextParts$Heap" "sender" "I"]
def wsX8_forget_r2 : List Cond := [Cond.fieldLink RX1 15 "TextParts$Heap" "reference" "I", Cond.fieldLink RX1 26 "TextParts$Heap" "pieces" "[LTextParts$Piece;", Cond.fieldLink RX1 30 "TextParts$Heap" "there" "I", Cond.methodLink RX2 68 yX2_removeHeap, Cond.instanceMethod yX2_removeHeap, Cond.selects RX2 yX2_removeHeap yX2_removeHeap, Cond.code yX2_removeHeap cX2_removeHeap 3 none]
def wsX8_forget : List Cond := .code yX8_forget cX8_forget 2 (some .int) :: ((wsX8_forget_r1 ++ wsX8_forget_r2) ++ wsX80 ++ wsX20 ++ wsX10 ++ (vx_atS RX8 48 "java/lang/IllegalArgumentException" ["java/lang/RuntimeException", "java/lang/Exception"]).filter goodWord)
def wsX9_init : List Cond := .code yX9_init cX9_init 3 none :: ([.methodLink RX9 1 objectInit, .instanceMethod objectInit, .code objectInit ⟨#[0xb1]⟩ 1 none, .arrayClass .int, .fieldLink RX9 7 "TextPartsModel" "plain" "[I", .fieldLink RX9 13 "TextPartsModel" "escaped" "[I", .fieldLink RX9 16 "TextPartsModel" "text" "[I", .fieldLink RX9 19 "TextPartsModel" "lengths" "[I", .constant RX9 22 (36210), .fieldLink RX9 23 "TextPartsModel" "bytes" "[I", .fieldLink RX9 26 "TextPartsModel" "hand" "[I", .constant RX9 29 (40800), .fieldLink RX9 30 "TextPartsModel" "latest" "[I", .fieldLink RX9 33 "TextPartsModel" "heapPlace" "[I", .fieldLink RX9 36 "TextPartsModel" "heapSender" "[I", .fieldLink RX9 39 "TextPartsModel" "heapReference" "[I", .fieldLink RX9 42 "TextPartsModel" "heapParts" "[I", .fieldLink RX9 45 "TextPartsModel" "heapThere" "[I", .fieldLink RX9 48 "TextPartsModel" "heapStamp" "[I", .fieldLink RX9 51 "TextPartsModel" "partCount" "[I", .constant RX9 54 (652800), .fieldLink RX9 55 "TextPartsModel" "partUnits" "[I", .fieldLink RX9 58 "TextPartsModel" "part" "[I", .fieldLink RX9 61 "TextPartsModel" "unit" "[I"] ++ wsX90)
def wsX9_thrown : List Cond := .code yX9_thrown cX9_thrown 1 (some .int) :: ([.fieldLink RX9 64 "TextPartsModel" "code" "I"] ++ wsX90)
def wsX9_refuses : List Cond := .code yX9_refuses cX9_refuses 2 (some .boolean) :: ([.fieldLink RX9 64 "TextPartsModel" "code" "I"] ++ wsX90)
def wsX9_sevenOf : List Cond := .code yX9_sevenOf cX9_sevenOf 4 (some .int) :: ([.fieldLink RX9 7 "TextPartsModel" "plain" "[I", .fieldLink RX9 13 "TextPartsModel" "escaped" "[I"] ++ wsX90)
def wsX9_put : List Cond := .code yX9_put cX9_put 2 (some .int) :: ([.constant RX9 68 (65535), .fieldLink RX9 69 "TextPartsModel" "count" "I", .fieldLink RX9 16 "TextPartsModel" "text" "[I", .methodLink RX9 72 yX9_refuses, .instanceMethod yX9_refuses, .selects RX9 yX9_refuses yX9_refuses, .initialized RX9, .code yX9_refuses cX9_refuses 2 (some .boolean), .fieldLink RX9 64 "TextPartsModel" "code" "I"] ++ wsX90)
def wsX9_clear : List Cond := .code yX9_clear cX9_clear 2 (some .int) :: ([.fieldLink RX9 64 "TextPartsModel" "code" "I", .fieldLink RX9 69 "TextPartsModel" "count" "I"] ++ wsX90)
def wsX9_sevens : List Cond := .code yX9_sevens cX9_sevens 4 (some .int) :: ([.fieldLink RX9 69 "TextPartsModel" "count" "I", .fieldLink RX9 16 "TextPartsModel" "text" "[I", .methodLink RX9 76 yX9_sevenOf, .instanceMethod yX9_sevenOf, .selects RX9 yX9_sevenOf yX9_sevenOf, .initialized RX9, .code yX9_sevenOf cX9_sevenOf 4 (some .int), .fieldLink RX9 7 "TextPartsModel" "plain" "[I", .fieldLink RX9 13 "TextPartsModel" "escaped" "[I"] ++ wsX90)
def wsX9_isFirst : List Cond := .code yX9_isFirst cX9_isFirst 1 (some .boolean) :: ([.constant RX9 80 (55296), .constant RX9 81 (56319)])
def wsX9_isSecond : List Cond := .code yX9_isSecond cX9_isSecond 1 (some .boolean) :: ([.constant RX9 82 (56320), .constant RX9 83 (57343)])
def wsX9_fitting : List Cond := .code yX9_fitting cX9_fitting 7 (some .int) :: ([.fieldLink RX9 69 "TextPartsModel" "count" "I", .fieldLink RX9 16 "TextPartsModel" "text" "[I", .methodLink RX9 84 yX9_isFirst, .static yX9_isFirst, .initialized RX9, .code yX9_isFirst cX9_isFirst 1 (some .boolean), .constant RX9 80 (55296), .constant RX9 81 (56319), .methodLink RX9 87 yX9_isSecond, .static yX9_isSecond, .code yX9_isSecond cX9_isSecond 1 (some .boolean), .constant RX9 82 (56320), .constant RX9 83 (57343), .methodLink RX9 76 yX9_sevenOf, .instanceMethod yX9_sevenOf, .selects RX9 yX9_sevenOf yX9_sevenOf, .code yX9_sevenOf cX9_sevenOf 4 (some .int), .fieldLink RX9 7 "TextPartsModel" "plain" "[I", .fieldLink RX9 13 "TextPartsModel" "escaped" "[I"] ++ wsX90)
def wsX9_partsOf : List Cond := .code yX9_partsOf cX9_partsOf 5 (some .int) :: ([.fieldLink RX9 69 "TextPartsModel" "count" "I", .methodLink RX9 90 yX9_fitting, .instanceMethod yX9_fitting, .selects RX9 yX9_fitting yX9_fitting, .initialized RX9, .code yX9_fitting cX9_fitting 7 (some .int), .fieldLink RX9 16 "TextPartsModel" "text" "[I", .methodLink RX9 84 yX9_isFirst, .static yX9_isFirst, .code yX9_isFirst cX9_isFirst 1 (some .boolean), .constant RX9 80 (55296), .constant RX9 81 (56319), .methodLink RX9 87 yX9_isSecond, .static yX9_isSecond, .code yX9_isSecond cX9_isSecond 1 (some .boolean), .constant RX9 82 (56320), .constant RX9 83 (57343), .methodLink RX9 76 yX9_sevenOf, .instanceMethod yX9_sevenOf, .selects RX9 yX9_sevenOf yX9_sevenOf, .code yX9_sevenOf cX9_sevenOf 4 (some .int), .fieldLink RX9 7 "TextPartsModel" "plain" "[I", .fieldLink RX9 13 "TextPartsModel" "escaped" "[I"] ++ wsX90)
def wsX9_about_r1 : List Cond := [Cond.fieldLink RX9 69 "TextPartsModel" "count" "I", Cond.fieldLink RX9 101 "TextPartsModel" "reference" "I", Cond.fieldLink RX9 104 "TextPartsModel" "made" "I", Cond.fieldLink RX9 107 "TextPartsModel" "heaps" "I", Cond.fieldLink RX9 110 "TextPartsModel" "latestCount" "I", Cond.fieldLink RX9 113 "TextPartsModel" "atHand" "I", Cond.methodLink RX9 72 yX9_refuses, Cond.instanceMethod yX9_refuses, Cond.selects RX9 yX9_refuses yX9_refuses, Cond.initialized RX9, Cond.code yX9_refuses cX9_refuses 2 (some .boolean), Cond.fieldLink RX9 64 "TextPartsModel" "code" "I", Cond.methodLink RX9 94 yX9_sevens, Cond.instanceMethod yX9_sevens, Cond.selects RX9 yX9_sevens yX9_sevens, Cond.code yX9_sevens cX9_sevens 4 (some .int), Cond.fieldLink RX9 16 "TextPartsModel" "text" "[I", Cond.methodLink RX9 76 yX9_sevenOf, Cond.instanceMethod yX9_sevenOf, Cond.selects RX9 yX9_sevenOf yX9_sevenOf, Cond.code yX9_sevenOf cX9_sevenOf 4 (some .int), Cond.fieldLink RX9 7 "TextPartsModel" "plain" "[I", Cond.fieldLink RX9 13 "TextPartsModel" "escaped" "[I", Cond.methodLink RX9 98 yX9_partsOf]
def wsX9_about_r2 : List Cond := [Cond.instanceMethod yX9_partsOf, Cond.selects RX9 yX9_partsOf yX9_partsOf, Cond.code yX9_partsOf cX9_partsOf 5 (some .int), Cond.methodLink RX9 90 yX9_fitting, Cond.instanceMethod yX9_fitting, Cond.selects RX9 yX9_fitting yX9_fitting, Cond.code yX9_fitting cX9_fitting 7 (some .int), Cond.methodLink RX9 84 yX9_isFirst, Cond.static yX9_isFirst, Cond.code yX9_isFirst cX9_isFirst 1 (some .boolean), Cond.constant RX9 80 (55296), Cond.constant RX9 81 (56319), Cond.methodLink RX9 87 yX9_isSecond, Cond.static yX9_isSecond, Cond.code yX9_isSecond cX9_isSecond 1 (some .boolean), Cond.constant RX9 82 (56320), Cond.constant RX9 83 (57343)]
def wsX9_about : List Cond := .code yX9_about cX9_about 3 (some .int) :: ((wsX9_about_r1 ++ wsX9_about_r2) ++ wsX90)
def wsX9_puts : List Cond := .code yX9_puts cX9_puts 6 none :: ([.fieldLink RX9 23 "TextPartsModel" "bytes" "[I"] ++ wsX90)
def wsX9_part : List Cond := .code yX9_part cX9_part 10 none :: ([.fieldLink RX9 23 "TextPartsModel" "bytes" "[I", .fieldLink RX9 101 "TextPartsModel" "reference" "I", .fieldLink RX9 16 "TextPartsModel" "text" "[I", .fieldLink RX9 19 "TextPartsModel" "lengths" "[I", .methodLink RX9 76 yX9_sevenOf, .instanceMethod yX9_sevenOf, .selects RX9 yX9_sevenOf yX9_sevenOf, .initialized RX9, .code yX9_sevenOf cX9_sevenOf 4 (some .int), .fieldLink RX9 7 "TextPartsModel" "plain" "[I", .fieldLink RX9 13 "TextPartsModel" "escaped" "[I", .methodLink RX9 116 yX9_puts, .instanceMethod yX9_puts, .selects RX9 yX9_puts yX9_puts, .code yX9_puts cX9_puts 6 none] ++ wsX90)
def wsX9_make_r1 : List Cond := [Cond.fieldLink RX9 104 "TextPartsModel" "made" "I", Cond.fieldLink RX9 69 "TextPartsModel" "count" "I", Cond.fieldLink RX9 101 "TextPartsModel" "reference" "I", Cond.methodLink RX9 94 yX9_sevens, Cond.instanceMethod yX9_sevens, Cond.selects RX9 yX9_sevens yX9_sevens, Cond.initialized RX9, Cond.code yX9_sevens cX9_sevens 4 (some .int), Cond.fieldLink RX9 16 "TextPartsModel" "text" "[I", Cond.methodLink RX9 76 yX9_sevenOf, Cond.instanceMethod yX9_sevenOf, Cond.selects RX9 yX9_sevenOf yX9_sevenOf, Cond.code yX9_sevenOf cX9_sevenOf 4 (some .int), Cond.fieldLink RX9 7 "TextPartsModel" "plain" "[I", Cond.fieldLink RX9 13 "TextPartsModel" "escaped" "[I", Cond.methodLink RX9 98 yX9_partsOf, Cond.instanceMethod yX9_partsOf, Cond.selects RX9 yX9_partsOf yX9_partsOf, Cond.code yX9_partsOf cX9_partsOf 5 (some .int), Cond.methodLink RX9 90 yX9_fitting, Cond.instanceMethod yX9_fitting, Cond.selects RX9 yX9_fitting yX9_fitting, Cond.code yX9_fitting cX9_fitting 7 (some .int), Cond.methodLink RX9 84 yX9_isFirst]
def wsX9_make_r2 : List Cond := [Cond.static yX9_isFirst, Cond.code yX9_isFirst cX9_isFirst 1 (some .boolean), Cond.constant RX9 80 (55296), Cond.constant RX9 81 (56319), Cond.methodLink RX9 87 yX9_isSecond, Cond.static yX9_isSecond, Cond.code yX9_isSecond cX9_isSecond 1 (some .boolean), Cond.constant RX9 82 (56320), Cond.constant RX9 83 (57343), Cond.methodLink RX9 72 yX9_refuses, Cond.instanceMethod yX9_refuses, Cond.selects RX9 yX9_refuses yX9_refuses, Cond.code yX9_refuses cX9_refuses 2 (some .boolean), Cond.fieldLink RX9 64 "TextPartsModel" "code" "I", Cond.methodLink RX9 120 yX9_part, Cond.instanceMethod yX9_part, Cond.selects RX9 yX9_part yX9_part, Cond.code yX9_part cX9_part 10 none, Cond.fieldLink RX9 23 "TextPartsModel" "bytes" "[I", Cond.fieldLink RX9 19 "TextPartsModel" "lengths" "[I", Cond.methodLink RX9 116 yX9_puts, Cond.instanceMethod yX9_puts, Cond.selects RX9 yX9_puts yX9_puts, Cond.code yX9_puts cX9_puts 6 none]
def wsX9_make : List Cond := .code yX9_make cX9_make 7 (some .int) :: ((wsX9_make_r1 ++ wsX9_make_r2) ++ wsX90)
def wsX9_length : List Cond := .code yX9_length cX9_length 2 (some .int) :: ([.fieldLink RX9 104 "TextPartsModel" "made" "I", .fieldLink RX9 19 "TextPartsModel" "lengths" "[I", .methodLink RX9 72 yX9_refuses, .instanceMethod yX9_refuses, .selects RX9 yX9_refuses yX9_refuses, .initialized RX9, .code yX9_refuses cX9_refuses 2 (some .boolean), .fieldLink RX9 64 "TextPartsModel" "code" "I"] ++ wsX90)
def wsX9_byteOf : List Cond := .code yX9_byteOf cX9_byteOf 3 (some .int) :: ([.fieldLink RX9 104 "TextPartsModel" "made" "I", .fieldLink RX9 19 "TextPartsModel" "lengths" "[I", .fieldLink RX9 23 "TextPartsModel" "bytes" "[I", .methodLink RX9 72 yX9_refuses, .instanceMethod yX9_refuses, .selects RX9 yX9_refuses yX9_refuses, .initialized RX9, .code yX9_refuses cX9_refuses 2 (some .boolean), .fieldLink RX9 64 "TextPartsModel" "code" "I"] ++ wsX90)
def wsX9_alter : List Cond := .code yX9_alter cX9_alter 6 (some .int) :: ([.fieldLink RX9 104 "TextPartsModel" "made" "I", .fieldLink RX9 19 "TextPartsModel" "lengths" "[I", .fieldLink RX9 23 "TextPartsModel" "bytes" "[I", .methodLink RX9 72 yX9_refuses, .instanceMethod yX9_refuses, .selects RX9 yX9_refuses yX9_refuses, .initialized RX9, .code yX9_refuses cX9_refuses 2 (some .boolean), .fieldLink RX9 64 "TextPartsModel" "code" "I"] ++ wsX90)
def wsX9_bit : List Cond := .code yX9_bit cX9_bit 2 (some .int) :: ([.fieldLink RX9 58 "TextPartsModel" "part" "[I"] ++ wsX90)
def wsX9_seven : List Cond := .code yX9_seven cX9_seven 4 (some .int) :: ([.methodLink RX9 123 yX9_bit, .instanceMethod yX9_bit, .selects RX9 yX9_bit yX9_bit, .initialized RX9, .code yX9_bit cX9_bit 2 (some .int), .fieldLink RX9 58 "TextPartsModel" "part" "[I"] ++ wsX90)
def wsX9_alone : List Cond := .code yX9_alone cX9_alone 2 (some .int) :: ([.fieldLink RX9 7 "TextPartsModel" "plain" "[I"] ++ wsX90)
def wsX9_fault : List Cond := .code yX9_fault cX9_fault 10 (some .int) :: ([.fieldLink RX9 126 "TextPartsModel" "given" "I", .fieldLink RX9 58 "TextPartsModel" "part" "[I", .fieldLink RX9 129 "TextPartsModel" "units" "I", .fieldLink RX9 13 "TextPartsModel" "escaped" "[I", .fieldLink RX9 61 "TextPartsModel" "unit" "[I", .methodLink RX9 123 yX9_bit, .instanceMethod yX9_bit, .selects RX9 yX9_bit yX9_bit, .initialized RX9, .code yX9_bit cX9_bit 2 (some .int), .methodLink RX9 132 yX9_seven, .instanceMethod yX9_seven, .selects RX9 yX9_seven yX9_seven, .code yX9_seven cX9_seven 4 (some .int), .methodLink RX9 135 yX9_alone, .instanceMethod yX9_alone, .selects RX9 yX9_alone yX9_alone, .code yX9_alone cX9_alone 2 (some .int), .fieldLink RX9 7 "TextPartsModel" "plain" "[I"] ++ wsX90)
def wsX9_gone : List Cond := .code yX9_gone cX9_gone 4 none :: ([.fieldLink RX9 33 "TextPartsModel" "heapPlace" "[I", .fieldLink RX9 107 "TextPartsModel" "heaps" "I", .fieldLink RX9 36 "TextPartsModel" "heapSender" "[I", .fieldLink RX9 39 "TextPartsModel" "heapReference" "[I", .fieldLink RX9 42 "TextPartsModel" "heapParts" "[I", .fieldLink RX9 45 "TextPartsModel" "heapThere" "[I", .fieldLink RX9 48 "TextPartsModel" "heapStamp" "[I"] ++ wsX90)
def wsX9_begin : List Cond := .code yX9_begin cX9_begin 7 (some .int) :: ([.fieldLink RX9 107 "TextPartsModel" "heaps" "I", .fieldLink RX9 48 "TextPartsModel" "heapStamp" "[I", .fieldLink RX9 33 "TextPartsModel" "heapPlace" "[I", .fieldLink RX9 36 "TextPartsModel" "heapSender" "[I", .fieldLink RX9 39 "TextPartsModel" "heapReference" "[I", .fieldLink RX9 42 "TextPartsModel" "heapParts" "[I", .fieldLink RX9 45 "TextPartsModel" "heapThere" "[I", .fieldLink RX9 51 "TextPartsModel" "partCount" "[I", .methodLink RX9 138 yX9_gone, .instanceMethod yX9_gone, .selects RX9 yX9_gone yX9_gone, .initialized RX9, .code yX9_gone cX9_gone 4 none] ++ wsX90)
def wsX9_reads_r1 : List Cond := [Cond.fieldLink RX9 58 "TextPartsModel" "part" "[I", Cond.fieldLink RX9 129 "TextPartsModel" "units" "I", Cond.fieldLink RX9 30 "TextPartsModel" "latest" "[I", Cond.fieldLink RX9 61 "TextPartsModel" "unit" "[I", Cond.fieldLink RX9 110 "TextPartsModel" "latestCount" "I", Cond.fieldLink RX9 107 "TextPartsModel" "heaps" "I", Cond.fieldLink RX9 36 "TextPartsModel" "heapSender" "[I", Cond.fieldLink RX9 39 "TextPartsModel" "heapReference" "[I", Cond.fieldLink RX9 42 "TextPartsModel" "heapParts" "[I", Cond.fieldLink RX9 33 "TextPartsModel" "heapPlace" "[I", Cond.fieldLink RX9 51 "TextPartsModel" "partCount" "[I", Cond.fieldLink RX9 55 "TextPartsModel" "partUnits" "[I", Cond.fieldLink RX9 45 "TextPartsModel" "heapThere" "[I", Cond.fieldLink RX9 149 "TextPartsModel" "stamps" "I", Cond.fieldLink RX9 48 "TextPartsModel" "heapStamp" "[I", Cond.methodLink RX9 142 yX9_fault, Cond.instanceMethod yX9_fault, Cond.selects RX9 yX9_fault yX9_fault, Cond.initialized RX9, Cond.code yX9_fault cX9_fault 10 (some .int), Cond.fieldLink RX9 126 "TextPartsModel" "given" "I", Cond.fieldLink RX9 13 "TextPartsModel" "escaped" "[I", Cond.methodLink RX9 123 yX9_bit, Cond.instanceMethod yX9_bit]
def wsX9_reads_r2 : List Cond := [Cond.selects RX9 yX9_bit yX9_bit, Cond.code yX9_bit cX9_bit 2 (some .int), Cond.methodLink RX9 132 yX9_seven, Cond.instanceMethod yX9_seven, Cond.selects RX9 yX9_seven yX9_seven, Cond.code yX9_seven cX9_seven 4 (some .int), Cond.methodLink RX9 135 yX9_alone, Cond.instanceMethod yX9_alone, Cond.selects RX9 yX9_alone yX9_alone, Cond.code yX9_alone cX9_alone 2 (some .int), Cond.fieldLink RX9 7 "TextPartsModel" "plain" "[I", Cond.methodLink RX9 145 yX9_begin, Cond.instanceMethod yX9_begin, Cond.selects RX9 yX9_begin yX9_begin, Cond.code yX9_begin cX9_begin 7 (some .int), Cond.methodLink RX9 138 yX9_gone, Cond.instanceMethod yX9_gone, Cond.selects RX9 yX9_gone yX9_gone, Cond.code yX9_gone cX9_gone 4 none]
def wsX9_reads : List Cond := .code yX9_reads cX9_reads 8 (some .int) :: ((wsX9_reads_r1 ++ wsX9_reads_r2) ++ wsX90)
def wsX9_take_r1 : List Cond := [Cond.fieldLink RX9 104 "TextPartsModel" "made" "I", Cond.fieldLink RX9 19 "TextPartsModel" "lengths" "[I", Cond.fieldLink RX9 126 "TextPartsModel" "given" "I", Cond.fieldLink RX9 58 "TextPartsModel" "part" "[I", Cond.fieldLink RX9 23 "TextPartsModel" "bytes" "[I", Cond.methodLink RX9 72 yX9_refuses, Cond.instanceMethod yX9_refuses, Cond.selects RX9 yX9_refuses yX9_refuses, Cond.initialized RX9, Cond.code yX9_refuses cX9_refuses 2 (some .boolean), Cond.fieldLink RX9 64 "TextPartsModel" "code" "I", Cond.methodLink RX9 152 yX9_reads, Cond.instanceMethod yX9_reads, Cond.selects RX9 yX9_reads yX9_reads, Cond.code yX9_reads cX9_reads 8 (some .int), Cond.fieldLink RX9 129 "TextPartsModel" "units" "I", Cond.fieldLink RX9 30 "TextPartsModel" "latest" "[I", Cond.fieldLink RX9 61 "TextPartsModel" "unit" "[I", Cond.fieldLink RX9 110 "TextPartsModel" "latestCount" "I", Cond.fieldLink RX9 107 "TextPartsModel" "heaps" "I", Cond.fieldLink RX9 36 "TextPartsModel" "heapSender" "[I", Cond.fieldLink RX9 39 "TextPartsModel" "heapReference" "[I", Cond.fieldLink RX9 42 "TextPartsModel" "heapParts" "[I", Cond.fieldLink RX9 33 "TextPartsModel" "heapPlace" "[I"]
def wsX9_take_r2 : List Cond := [Cond.fieldLink RX9 51 "TextPartsModel" "partCount" "[I", Cond.fieldLink RX9 55 "TextPartsModel" "partUnits" "[I", Cond.fieldLink RX9 45 "TextPartsModel" "heapThere" "[I", Cond.fieldLink RX9 149 "TextPartsModel" "stamps" "I", Cond.fieldLink RX9 48 "TextPartsModel" "heapStamp" "[I", Cond.methodLink RX9 142 yX9_fault, Cond.instanceMethod yX9_fault, Cond.selects RX9 yX9_fault yX9_fault, Cond.code yX9_fault cX9_fault 10 (some .int), Cond.fieldLink RX9 13 "TextPartsModel" "escaped" "[I", Cond.methodLink RX9 123 yX9_bit, Cond.instanceMethod yX9_bit, Cond.selects RX9 yX9_bit yX9_bit, Cond.code yX9_bit cX9_bit 2 (some .int), Cond.methodLink RX9 132 yX9_seven, Cond.instanceMethod yX9_seven, Cond.selects RX9 yX9_seven yX9_seven, Cond.code yX9_seven cX9_seven 4 (some .int), Cond.methodLink RX9 135 yX9_alone, Cond.instanceMethod yX9_alone, Cond.selects RX9 yX9_alone yX9_alone, Cond.code yX9_alone cX9_alone 2 (some .int), Cond.fieldLink RX9 7 "TextPartsModel" "plain" "[I", Cond.methodLink RX9 145 yX9_begin]
def wsX9_take_r3 : List Cond := [Cond.instanceMethod yX9_begin, Cond.selects RX9 yX9_begin yX9_begin, Cond.code yX9_begin cX9_begin 7 (some .int), Cond.methodLink RX9 138 yX9_gone, Cond.instanceMethod yX9_gone, Cond.selects RX9 yX9_gone yX9_gone, Cond.code yX9_gone cX9_gone 4 none]
def wsX9_take : List Cond := .code yX9_take cX9_take 4 (some .int) :: ((wsX9_take_r1 ++ (wsX9_take_r2 ++ wsX9_take_r3)) ++ wsX90)
def wsX9_feed : List Cond := .code yX9_feed cX9_feed 5 (some .int) :: ([.fieldLink RX9 113 "TextPartsModel" "atHand" "I", .fieldLink RX9 26 "TextPartsModel" "hand" "[I", .methodLink RX9 72 yX9_refuses, .instanceMethod yX9_refuses, .selects RX9 yX9_refuses yX9_refuses, .initialized RX9, .code yX9_refuses cX9_refuses 2 (some .boolean), .fieldLink RX9 64 "TextPartsModel" "code" "I"] ++ wsX90)
def wsX9_read_r1 : List Cond := [Cond.fieldLink RX9 113 "TextPartsModel" "atHand" "I", Cond.fieldLink RX9 126 "TextPartsModel" "given" "I", Cond.fieldLink RX9 58 "TextPartsModel" "part" "[I", Cond.fieldLink RX9 26 "TextPartsModel" "hand" "[I", Cond.methodLink RX9 72 yX9_refuses, Cond.instanceMethod yX9_refuses, Cond.selects RX9 yX9_refuses yX9_refuses, Cond.initialized RX9, Cond.code yX9_refuses cX9_refuses 2 (some .boolean), Cond.fieldLink RX9 64 "TextPartsModel" "code" "I", Cond.methodLink RX9 152 yX9_reads, Cond.instanceMethod yX9_reads, Cond.selects RX9 yX9_reads yX9_reads, Cond.code yX9_reads cX9_reads 8 (some .int), Cond.fieldLink RX9 129 "TextPartsModel" "units" "I", Cond.fieldLink RX9 30 "TextPartsModel" "latest" "[I", Cond.fieldLink RX9 61 "TextPartsModel" "unit" "[I", Cond.fieldLink RX9 110 "TextPartsModel" "latestCount" "I", Cond.fieldLink RX9 107 "TextPartsModel" "heaps" "I", Cond.fieldLink RX9 36 "TextPartsModel" "heapSender" "[I", Cond.fieldLink RX9 39 "TextPartsModel" "heapReference" "[I", Cond.fieldLink RX9 42 "TextPartsModel" "heapParts" "[I", Cond.fieldLink RX9 33 "TextPartsModel" "heapPlace" "[I", Cond.fieldLink RX9 51 "TextPartsModel" "partCount" "[I"]
def wsX9_read_r2 : List Cond := [Cond.fieldLink RX9 55 "TextPartsModel" "partUnits" "[I", Cond.fieldLink RX9 45 "TextPartsModel" "heapThere" "[I", Cond.fieldLink RX9 149 "TextPartsModel" "stamps" "I", Cond.fieldLink RX9 48 "TextPartsModel" "heapStamp" "[I", Cond.methodLink RX9 142 yX9_fault, Cond.instanceMethod yX9_fault, Cond.selects RX9 yX9_fault yX9_fault, Cond.code yX9_fault cX9_fault 10 (some .int), Cond.fieldLink RX9 13 "TextPartsModel" "escaped" "[I", Cond.methodLink RX9 123 yX9_bit, Cond.instanceMethod yX9_bit, Cond.selects RX9 yX9_bit yX9_bit, Cond.code yX9_bit cX9_bit 2 (some .int), Cond.methodLink RX9 132 yX9_seven, Cond.instanceMethod yX9_seven, Cond.selects RX9 yX9_seven yX9_seven, Cond.code yX9_seven cX9_seven 4 (some .int), Cond.methodLink RX9 135 yX9_alone, Cond.instanceMethod yX9_alone, Cond.selects RX9 yX9_alone yX9_alone, Cond.code yX9_alone cX9_alone 2 (some .int), Cond.fieldLink RX9 7 "TextPartsModel" "plain" "[I", Cond.methodLink RX9 145 yX9_begin, Cond.instanceMethod yX9_begin]
def wsX9_read_r3 : List Cond := [Cond.selects RX9 yX9_begin yX9_begin, Cond.code yX9_begin cX9_begin 7 (some .int), Cond.methodLink RX9 138 yX9_gone, Cond.instanceMethod yX9_gone, Cond.selects RX9 yX9_gone yX9_gone, Cond.code yX9_gone cX9_gone 4 none]
def wsX9_read : List Cond := .code yX9_read cX9_read 3 (some .int) :: ((wsX9_read_r1 ++ (wsX9_read_r2 ++ wsX9_read_r3)) ++ wsX90)
def wsX9_unit : List Cond := .code yX9_unit cX9_unit 2 (some .int) :: ([.fieldLink RX9 64 "TextPartsModel" "code" "I", .fieldLink RX9 110 "TextPartsModel" "latestCount" "I", .fieldLink RX9 30 "TextPartsModel" "latest" "[I"] ++ wsX90)
def wsX9_heap : List Cond := .code yX9_heap cX9_heap 3 (some .int) :: ([.fieldLink RX9 107 "TextPartsModel" "heaps" "I", .fieldLink RX9 36 "TextPartsModel" "heapSender" "[I", .fieldLink RX9 39 "TextPartsModel" "heapReference" "[I", .fieldLink RX9 42 "TextPartsModel" "heapParts" "[I", .fieldLink RX9 45 "TextPartsModel" "heapThere" "[I", .methodLink RX9 72 yX9_refuses, .instanceMethod yX9_refuses, .selects RX9 yX9_refuses yX9_refuses, .initialized RX9, .code yX9_refuses cX9_refuses 2 (some .boolean), .fieldLink RX9 64 "TextPartsModel" "code" "I"] ++ wsX90)
def wsX9_forget : List Cond := .code yX9_forget cX9_forget 4 (some .int) :: ([.fieldLink RX9 107 "TextPartsModel" "heaps" "I", .fieldLink RX9 36 "TextPartsModel" "heapSender" "[I", .methodLink RX9 72 yX9_refuses, .instanceMethod yX9_refuses, .selects RX9 yX9_refuses yX9_refuses, .initialized RX9, .code yX9_refuses cX9_refuses 2 (some .boolean), .fieldLink RX9 64 "TextPartsModel" "code" "I", .methodLink RX9 138 yX9_gone, .instanceMethod yX9_gone, .selects RX9 yX9_gone yX9_gone, .code yX9_gone cX9_gone 4 none, .fieldLink RX9 33 "TextPartsModel" "heapPlace" "[I", .fieldLink RX9 39 "TextPartsModel" "heapReference" "[I", .fieldLink RX9 42 "TextPartsModel" "heapParts" "[I", .fieldLink RX9 45 "TextPartsModel" "heapThere" "[I", .fieldLink RX9 48 "TextPartsModel" "heapStamp" "[I"] ++ wsX90)
def wsJ9_max_7cf53 : List Cond := .code yJ9_max_7cf53 cJ9_max_7cf53 2 (some .int) :: ([])
def wsJ9_min_7cf53 : List Cond := .code yJ9_min_7cf53 cJ9_min_7cf53 2 (some .int) :: ([])
abbrev vwCl : List vw_C := [(RX1, TX1, 6), (RX2, TX2, 5), (RX3, TX3, 2), (RX4, TX4, 7), (RX5, TX5, 1), (RX6, TX6, 2), (RX7, TX7, 4), (RX8, TX8, 5), (RX9, TX9, 27)]
end
section
set_option maxRecDepth 20000 in
theorem ggX0_sevensFor_X0_plainSeven : GoodIn wsX0_sevensFor wsX0_plainSeven := goodIn_r _ [4, 5, 6, 7, 8, 3, 9, 10, 11, 12] (by decide +kernel) (by decide +kernel)
set_option maxRecDepth 20000 in
theorem gX0_sevensFor_X0_plainSeven : GoodIn wsX0_sevensFor (va_wsS RX0 9 yX0_plainSeven wsX0_plainSeven) := goodIn_app (goodIn_of _ (by decide +kernel)) ggX0_sevensFor_X0_plainSeven
set_option maxRecDepth 20000 in
theorem ggX0_sevensFor_X0_escapedSeven : GoodIn wsX0_sevensFor wsX0_escapedSeven := goodIn_r _ [15, 16, 17, 10, 11, 3, 12] (by decide +kernel) (by decide +kernel)
set_option maxRecDepth 20000 in
theorem gX0_sevensFor_X0_escapedSeven : GoodIn wsX0_sevensFor (va_wsS RX0 15 yX0_escapedSeven wsX0_escapedSeven) := goodIn_app (goodIn_of _ (by decide +kernel)) ggX0_sevensFor_X0_escapedSeven
theorem dX0_sevensFor_0 : decode cX0_sevensFor 0 = .ok (.iload_n 0, 1) := by decide +kernel
theorem dX0_sevensFor_1 : decode cX0_sevensFor 1 = .ok (.invokestatic 9, 3) := by decide +kernel
theorem dX0_sevensFor_4 : decode cX0_sevensFor 4 = .ok (.iconst (-1), 1) := by decide +kernel
theorem dX0_sevensFor_5 : decode cX0_sevensFor 5 = .ok (.if_icmp .eq 5, 3) := by decide +kernel
theorem dX0_sevensFor_8 : decode cX0_sevensFor 8 = .ok (.iconst 1, 1) := by decide +kernel
theorem dX0_sevensFor_9 : decode cX0_sevensFor 9 = .ok (.ireturn, 1) := by decide +kernel
theorem dX0_sevensFor_10 : decode cX0_sevensFor 10 = .ok (.iload_n 0, 1) := by decide +kernel
theorem dX0_sevensFor_11 : decode cX0_sevensFor 11 = .ok (.invokestatic 15, 3) := by decide +kernel
theorem dX0_sevensFor_14 : decode cX0_sevensFor 14 = .ok (.iconst (-1), 1) := by decide +kernel
theorem dX0_sevensFor_15 : decode cX0_sevensFor 15 = .ok (.if_icmp .eq 7, 3) := by decide +kernel
theorem dX0_sevensFor_18 : decode cX0_sevensFor 18 = .ok (.iconst 2, 1) := by decide +kernel
theorem dX0_sevensFor_19 : decode cX0_sevensFor 19 = .ok (.goto 4, 3) := by decide +kernel
theorem dX0_sevensFor_22 : decode cX0_sevensFor 22 = .ok (.iconst 0, 1) := by decide +kernel
theorem dX0_sevensFor_23 : decode cX0_sevensFor 23 = .ok (.ireturn, 1) := by decide +kernel
set_option maxRecDepth 20000 in
theorem ggX0_plainSeven_X0_isItsOwnSeven : GoodIn wsX0_plainSeven wsX0_isItsOwnSeven := goodIn_r _ [6] (by decide +kernel) (by decide +kernel)
set_option maxRecDepth 20000 in
theorem gX0_plainSeven_X0_isItsOwnSeven : GoodIn wsX0_plainSeven (va_wsS RX0 18 yX0_isItsOwnSeven wsX0_isItsOwnSeven) := goodIn_app (goodIn_of _ (by decide +kernel)) ggX0_plainSeven_X0_isItsOwnSeven
set_option maxRecDepth 20000 in
theorem ggX0_plainSeven_X0_partner : GoodIn wsX0_plainSeven wsX0_partner := goodIn_r _ [9] (by decide +kernel) (by decide +kernel)
set_option maxRecDepth 20000 in
theorem gX0_plainSeven_X0_partner : GoodIn wsX0_plainSeven (va_wsS RX0 29 yX0_partner wsX0_partner) := goodIn_app (goodIn_of _ (by decide +kernel)) ggX0_plainSeven_X0_partner
theorem dX0_plainSeven_0 : decode cX0_plainSeven 0 = .ok (.iload_n 0, 1) := by decide +kernel
theorem dX0_plainSeven_1 : decode cX0_plainSeven 1 = .ok (.invokestatic 18, 3) := by decide +kernel
theorem dX0_plainSeven_4 : decode cX0_plainSeven 4 = .ok (.ifCond .eq 7, 3) := by decide +kernel
theorem dX0_plainSeven_7 : decode cX0_plainSeven 7 = .ok (.iload_n 0, 1) := by decide +kernel
theorem dX0_plainSeven_8 : decode cX0_plainSeven 8 = .ok (.goto 13, 3) := by decide +kernel
theorem dX0_plainSeven_11 : decode cX0_plainSeven 11 = .ok (.getstatic 22, 3) := by decide +kernel
theorem dX0_plainSeven_14 : decode cX0_plainSeven 14 = .ok (.getstatic 26, 3) := by decide +kernel
theorem dX0_plainSeven_17 : decode cX0_plainSeven 17 = .ok (.iload_n 0, 1) := by decide +kernel
theorem dX0_plainSeven_18 : decode cX0_plainSeven 18 = .ok (.invokestatic 29, 3) := by decide +kernel
theorem dX0_plainSeven_21 : decode cX0_plainSeven 21 = .ok (.ireturn, 1) := by decide +kernel
set_option maxRecDepth 20000 in
theorem ggX0_escapedSeven_X0_partner : GoodIn wsX0_escapedSeven wsX0_partner := goodIn_r _ [6] (by decide +kernel) (by decide +kernel)
set_option maxRecDepth 20000 in
theorem gX0_escapedSeven_X0_partner : GoodIn wsX0_escapedSeven (va_wsS RX0 29 yX0_partner wsX0_partner) := goodIn_app (goodIn_of _ (by decide +kernel)) ggX0_escapedSeven_X0_partner
theorem dX0_escapedSeven_0 : decode cX0_escapedSeven 0 = .ok (.getstatic 33, 3) := by decide +kernel
theorem dX0_escapedSeven_3 : decode cX0_escapedSeven 3 = .ok (.getstatic 36, 3) := by decide +kernel
theorem dX0_escapedSeven_6 : decode cX0_escapedSeven 6 = .ok (.iload_n 0, 1) := by decide +kernel
theorem dX0_escapedSeven_7 : decode cX0_escapedSeven 7 = .ok (.invokestatic 29, 3) := by decide +kernel
theorem dX0_escapedSeven_10 : decode cX0_escapedSeven 10 = .ok (.ireturn, 1) := by decide +kernel
set_option maxRecDepth 20000 in
theorem ggX0_plainUnit_X0_isItsOwnSeven : GoodIn wsX0_plainUnit wsX0_isItsOwnSeven := goodIn_r _ [6] (by decide +kernel) (by decide +kernel)
set_option maxRecDepth 20000 in
theorem gX0_plainUnit_X0_isItsOwnSeven : GoodIn wsX0_plainUnit (va_wsS RX0 18 yX0_isItsOwnSeven wsX0_isItsOwnSeven) := goodIn_app (goodIn_of _ (by decide +kernel)) ggX0_plainUnit_X0_isItsOwnSeven
set_option maxRecDepth 20000 in
theorem ggX0_plainUnit_X0_partner : GoodIn wsX0_plainUnit wsX0_partner := goodIn_r _ [9] (by decide +kernel) (by decide +kernel)
set_option maxRecDepth 20000 in
theorem gX0_plainUnit_X0_partner : GoodIn wsX0_plainUnit (va_wsS RX0 29 yX0_partner wsX0_partner) := goodIn_app (goodIn_of _ (by decide +kernel)) ggX0_plainUnit_X0_partner
theorem dX0_plainUnit_0 : decode cX0_plainUnit 0 = .ok (.iload_n 0, 1) := by decide +kernel
theorem dX0_plainUnit_1 : decode cX0_plainUnit 1 = .ok (.invokestatic 18, 3) := by decide +kernel
theorem dX0_plainUnit_4 : decode cX0_plainUnit 4 = .ok (.ifCond .eq 7, 3) := by decide +kernel
theorem dX0_plainUnit_7 : decode cX0_plainUnit 7 = .ok (.iload_n 0, 1) := by decide +kernel
theorem dX0_plainUnit_8 : decode cX0_plainUnit 8 = .ok (.goto 13, 3) := by decide +kernel
theorem dX0_plainUnit_11 : decode cX0_plainUnit 11 = .ok (.getstatic 26, 3) := by decide +kernel
theorem dX0_plainUnit_14 : decode cX0_plainUnit 14 = .ok (.getstatic 22, 3) := by decide +kernel
theorem dX0_plainUnit_17 : decode cX0_plainUnit 17 = .ok (.iload_n 0, 1) := by decide +kernel
theorem dX0_plainUnit_18 : decode cX0_plainUnit 18 = .ok (.invokestatic 29, 3) := by decide +kernel
theorem dX0_plainUnit_21 : decode cX0_plainUnit 21 = .ok (.istore_n 1, 1) := by decide +kernel
theorem dX0_plainUnit_22 : decode cX0_plainUnit 22 = .ok (.iload_n 1, 1) := by decide +kernel
theorem dX0_plainUnit_23 : decode cX0_plainUnit 23 = .ok (.iconst (-1), 1) := by decide +kernel
theorem dX0_plainUnit_24 : decode cX0_plainUnit 24 = .ok (.if_icmp .ne 8, 3) := by decide +kernel
theorem dX0_plainUnit_27 : decode cX0_plainUnit 27 = .ok (.bipush 63, 2) := by decide +kernel
theorem dX0_plainUnit_29 : decode cX0_plainUnit 29 = .ok (.goto 4, 3) := by decide +kernel
theorem dX0_plainUnit_32 : decode cX0_plainUnit 32 = .ok (.iload_n 1, 1) := by decide +kernel
theorem dX0_plainUnit_33 : decode cX0_plainUnit 33 = .ok (.ireturn, 1) := by decide +kernel
set_option maxRecDepth 20000 in
theorem ggX0_escapedUnit_X0_partner : GoodIn wsX0_escapedUnit wsX0_partner := goodIn_r _ [6] (by decide +kernel) (by decide +kernel)
set_option maxRecDepth 20000 in
theorem gX0_escapedUnit_X0_partner : GoodIn wsX0_escapedUnit (va_wsS RX0 29 yX0_partner wsX0_partner) := goodIn_app (goodIn_of _ (by decide +kernel)) ggX0_escapedUnit_X0_partner
set_option maxRecDepth 20000 in
theorem ggX0_escapedUnit_X0_plainUnit : GoodIn wsX0_escapedUnit wsX0_plainUnit := goodIn_r _ [9, 10, 11, 12, 13, 5, 14, 3, 4, 6] (by decide +kernel) (by decide +kernel)
set_option maxRecDepth 20000 in
theorem gX0_escapedUnit_X0_plainUnit : GoodIn wsX0_escapedUnit (va_wsS RX0 39 yX0_plainUnit wsX0_plainUnit) := goodIn_app (goodIn_of _ (by decide +kernel)) ggX0_escapedUnit_X0_plainUnit
theorem dX0_escapedUnit_0 : decode cX0_escapedUnit 0 = .ok (.iload_n 0, 1) := by decide +kernel
theorem dX0_escapedUnit_1 : decode cX0_escapedUnit 1 = .ok (.iconst (-1), 1) := by decide +kernel
theorem dX0_escapedUnit_2 : decode cX0_escapedUnit 2 = .ok (.if_icmp .ne 6, 3) := by decide +kernel
theorem dX0_escapedUnit_5 : decode cX0_escapedUnit 5 = .ok (.bipush 32, 2) := by decide +kernel
theorem dX0_escapedUnit_7 : decode cX0_escapedUnit 7 = .ok (.ireturn, 1) := by decide +kernel
theorem dX0_escapedUnit_8 : decode cX0_escapedUnit 8 = .ok (.getstatic 36, 3) := by decide +kernel
theorem dX0_escapedUnit_11 : decode cX0_escapedUnit 11 = .ok (.getstatic 33, 3) := by decide +kernel
theorem dX0_escapedUnit_14 : decode cX0_escapedUnit 14 = .ok (.iload_n 0, 1) := by decide +kernel
theorem dX0_escapedUnit_15 : decode cX0_escapedUnit 15 = .ok (.invokestatic 29, 3) := by decide +kernel
theorem dX0_escapedUnit_18 : decode cX0_escapedUnit 18 = .ok (.istore_n 1, 1) := by decide +kernel
theorem dX0_escapedUnit_19 : decode cX0_escapedUnit 19 = .ok (.iload_n 1, 1) := by decide +kernel
theorem dX0_escapedUnit_20 : decode cX0_escapedUnit 20 = .ok (.iconst (-1), 1) := by decide +kernel
theorem dX0_escapedUnit_21 : decode cX0_escapedUnit 21 = .ok (.if_icmp .ne 10, 3) := by decide +kernel
theorem dX0_escapedUnit_24 : decode cX0_escapedUnit 24 = .ok (.iload_n 0, 1) := by decide +kernel
theorem dX0_escapedUnit_25 : decode cX0_escapedUnit 25 = .ok (.invokestatic 39, 3) := by decide +kernel
theorem dX0_escapedUnit_28 : decode cX0_escapedUnit 28 = .ok (.goto 4, 3) := by decide +kernel
theorem dX0_escapedUnit_31 : decode cX0_escapedUnit 31 = .ok (.iload_n 1, 1) := by decide +kernel
theorem dX0_escapedUnit_32 : decode cX0_escapedUnit 32 = .ok (.ireturn, 1) := by decide +kernel
theorem dX0_isItsOwnSeven_0 : decode cX0_isItsOwnSeven 0 = .ok (.iload_n 0, 1) := by decide +kernel
theorem dX0_isItsOwnSeven_1 : decode cX0_isItsOwnSeven 1 = .ok (.bipush 36, 2) := by decide +kernel
theorem dX0_isItsOwnSeven_3 : decode cX0_isItsOwnSeven 3 = .ok (.if_icmp .eq 9, 3) := by decide +kernel
theorem dX0_isItsOwnSeven_6 : decode cX0_isItsOwnSeven 6 = .ok (.iload_n 0, 1) := by decide +kernel
theorem dX0_isItsOwnSeven_7 : decode cX0_isItsOwnSeven 7 = .ok (.bipush 64, 2) := by decide +kernel
theorem dX0_isItsOwnSeven_9 : decode cX0_isItsOwnSeven 9 = .ok (.if_icmp .ne 5, 3) := by decide +kernel
theorem dX0_isItsOwnSeven_12 : decode cX0_isItsOwnSeven 12 = .ok (.iconst 0, 1) := by decide +kernel
theorem dX0_isItsOwnSeven_13 : decode cX0_isItsOwnSeven 13 = .ok (.ireturn, 1) := by decide +kernel
theorem dX0_isItsOwnSeven_14 : decode cX0_isItsOwnSeven 14 = .ok (.iload_n 0, 1) := by decide +kernel
theorem dX0_isItsOwnSeven_15 : decode cX0_isItsOwnSeven 15 = .ok (.bipush 10, 2) := by decide +kernel
theorem dX0_isItsOwnSeven_17 : decode cX0_isItsOwnSeven 17 = .ok (.if_icmp .eq 33, 3) := by decide +kernel
theorem dX0_isItsOwnSeven_20 : decode cX0_isItsOwnSeven 20 = .ok (.iload_n 0, 1) := by decide +kernel
theorem dX0_isItsOwnSeven_21 : decode cX0_isItsOwnSeven 21 = .ok (.bipush 13, 2) := by decide +kernel
theorem dX0_isItsOwnSeven_23 : decode cX0_isItsOwnSeven 23 = .ok (.if_icmp .eq 27, 3) := by decide +kernel
theorem dX0_isItsOwnSeven_26 : decode cX0_isItsOwnSeven 26 = .ok (.iload_n 0, 1) := by decide +kernel
theorem dX0_isItsOwnSeven_27 : decode cX0_isItsOwnSeven 27 = .ok (.bipush 32, 2) := by decide +kernel
theorem dX0_isItsOwnSeven_29 : decode cX0_isItsOwnSeven 29 = .ok (.if_icmp .lt 9, 3) := by decide +kernel
theorem dX0_isItsOwnSeven_32 : decode cX0_isItsOwnSeven 32 = .ok (.iload_n 0, 1) := by decide +kernel
theorem dX0_isItsOwnSeven_33 : decode cX0_isItsOwnSeven 33 = .ok (.bipush 90, 2) := by decide +kernel
theorem dX0_isItsOwnSeven_35 : decode cX0_isItsOwnSeven 35 = .ok (.if_icmp .le 15, 3) := by decide +kernel
theorem dX0_isItsOwnSeven_38 : decode cX0_isItsOwnSeven 38 = .ok (.iload_n 0, 1) := by decide +kernel
theorem dX0_isItsOwnSeven_39 : decode cX0_isItsOwnSeven 39 = .ok (.bipush 97, 2) := by decide +kernel
theorem dX0_isItsOwnSeven_41 : decode cX0_isItsOwnSeven 41 = .ok (.if_icmp .lt 13, 3) := by decide +kernel
theorem dX0_isItsOwnSeven_44 : decode cX0_isItsOwnSeven 44 = .ok (.iload_n 0, 1) := by decide +kernel
theorem dX0_isItsOwnSeven_45 : decode cX0_isItsOwnSeven 45 = .ok (.bipush 122, 2) := by decide +kernel
theorem dX0_isItsOwnSeven_47 : decode cX0_isItsOwnSeven 47 = .ok (.if_icmp .gt 7, 3) := by decide +kernel
theorem dX0_isItsOwnSeven_50 : decode cX0_isItsOwnSeven 50 = .ok (.iconst 1, 1) := by decide +kernel
theorem dX0_isItsOwnSeven_51 : decode cX0_isItsOwnSeven 51 = .ok (.goto 4, 3) := by decide +kernel
theorem dX0_isItsOwnSeven_54 : decode cX0_isItsOwnSeven 54 = .ok (.iconst 0, 1) := by decide +kernel
theorem dX0_isItsOwnSeven_55 : decode cX0_isItsOwnSeven 55 = .ok (.ireturn, 1) := by decide +kernel
theorem dX0_partner_0 : decode cX0_partner 0 = .ok (.iconst 0, 1) := by decide +kernel
theorem dX0_partner_1 : decode cX0_partner 1 = .ok (.istore_n 3, 1) := by decide +kernel
theorem dX0_partner_2 : decode cX0_partner 2 = .ok (.iload_n 3, 1) := by decide +kernel
theorem dX0_partner_3 : decode cX0_partner 3 = .ok (.aload_n 0, 1) := by decide +kernel
theorem dX0_partner_4 : decode cX0_partner 4 = .ok (.arraylength, 1) := by decide +kernel
theorem dX0_partner_5 : decode cX0_partner 5 = .ok (.if_icmp .ge 26, 3) := by decide +kernel
theorem dX0_partner_8 : decode cX0_partner 8 = .ok (.iload_n 3, 1) := by decide +kernel
theorem dX0_partner_9 : decode cX0_partner 9 = .ok (.aload_n 1, 1) := by decide +kernel
theorem dX0_partner_10 : decode cX0_partner 10 = .ok (.arraylength, 1) := by decide +kernel
theorem dX0_partner_11 : decode cX0_partner 11 = .ok (.if_icmp .ge 20, 3) := by decide +kernel
theorem dX0_partner_14 : decode cX0_partner 14 = .ok (.aload_n 0, 1) := by decide +kernel
theorem dX0_partner_15 : decode cX0_partner 15 = .ok (.iload_n 3, 1) := by decide +kernel
theorem dX0_partner_16 : decode cX0_partner 16 = .ok (.iaload, 1) := by decide +kernel
theorem dX0_partner_17 : decode cX0_partner 17 = .ok (.iload_n 2, 1) := by decide +kernel
theorem dX0_partner_18 : decode cX0_partner 18 = .ok (.if_icmp .ne 7, 3) := by decide +kernel
theorem dX0_partner_21 : decode cX0_partner 21 = .ok (.aload_n 1, 1) := by decide +kernel
theorem dX0_partner_22 : decode cX0_partner 22 = .ok (.iload_n 3, 1) := by decide +kernel
theorem dX0_partner_23 : decode cX0_partner 23 = .ok (.iaload, 1) := by decide +kernel
theorem dX0_partner_24 : decode cX0_partner 24 = .ok (.ireturn, 1) := by decide +kernel
theorem dX0_partner_25 : decode cX0_partner 25 = .ok (.iinc 3 1, 3) := by decide +kernel
theorem dX0_partner_28 : decode cX0_partner 28 = .ok (.goto (-26), 3) := by decide +kernel
theorem dX0_partner_31 : decode cX0_partner 31 = .ok (.iconst (-1), 1) := by decide +kernel
theorem dX0_partner_32 : decode cX0_partner 32 = .ok (.ireturn, 1) := by decide +kernel
theorem dX5_init_0 : decode cX5_init 0 = .ok (.aload_n 0, 1) := by decide +kernel
theorem dX5_init_1 : decode cX5_init 1 = .ok (.invokespecial 1, 3) := by decide +kernel
theorem dX5_init_4 : decode cX5_init 4 = .ok (.aload_n 0, 1) := by decide +kernel
theorem dX5_init_5 : decode cX5_init 5 = .ok (.aload_n 1, 1) := by decide +kernel
theorem dX5_init_6 : decode cX5_init 6 = .ok (.putfield 7, 3) := by decide +kernel
theorem dX5_init_9 : decode cX5_init 9 = .ok (.return_, 1) := by decide +kernel
theorem dX6_init_0 : decode cX6_init 0 = .ok (.aload_n 0, 1) := by decide +kernel
theorem dX6_init_1 : decode cX6_init 1 = .ok (.invokespecial 3, 3) := by decide +kernel
theorem dX6_init_4 : decode cX6_init 4 = .ok (.aload_n 0, 1) := by decide +kernel
theorem dX6_init_5 : decode cX6_init 5 = .ok (.iload_n 1, 1) := by decide +kernel
theorem dX6_init_6 : decode cX6_init 6 = .ok (.newarray .int, 2) := by decide +kernel
theorem dX6_init_8 : decode cX6_init 8 = .ok (.putfield 9, 3) := by decide +kernel
theorem dX6_init_11 : decode cX6_init 11 = .ok (.return_, 1) := by decide +kernel
set_option maxRecDepth 20000 in
theorem ggX6_restart_J7_fill_53178 : GoodIn wsX6_restart wsJ7_fill_53178 := goodIn_r _ [13] (by decide +kernel) (by decide +kernel)
set_option maxRecDepth 20000 in
theorem gX6_restart_J7_fill_53178 : GoodIn wsX6_restart (va_wsS RX6 15 yJ7_fill_53178 wsJ7_fill_53178) := goodIn_app (goodIn_of _ (by decide +kernel)) ggX6_restart_J7_fill_53178
theorem dX6_restart_0 : decode cX6_restart 0 = .ok (.aload_n 0, 1) := by decide +kernel
theorem dX6_restart_1 : decode cX6_restart 1 = .ok (.getfield 9, 3) := by decide +kernel
theorem dX6_restart_4 : decode cX6_restart 4 = .ok (.iconst 0, 1) := by decide +kernel
theorem dX6_restart_5 : decode cX6_restart 5 = .ok (.invokestatic 15, 3) := by decide +kernel
theorem dX6_restart_8 : decode cX6_restart 8 = .ok (.aload_n 0, 1) := by decide +kernel
theorem dX6_restart_9 : decode cX6_restart 9 = .ok (.iconst 0, 1) := by decide +kernel
theorem dX6_restart_10 : decode cX6_restart 10 = .ok (.iload_n 1, 1) := by decide +kernel
theorem dX6_restart_11 : decode cX6_restart 11 = .ok (.aload_n 0, 1) := by decide +kernel
theorem dX6_restart_12 : decode cX6_restart 12 = .ok (.getfield 9, 3) := by decide +kernel
theorem dX6_restart_15 : decode cX6_restart 15 = .ok (.arraylength, 1) := by decide +kernel
theorem dX6_restart_16 : decode cX6_restart 16 = .ok (.invokestatic 21, 3) := by decide +kernel
theorem dX6_restart_19 : decode cX6_restart 19 = .ok (.invokestatic 27, 3) := by decide +kernel
theorem dX6_restart_22 : decode cX6_restart 22 = .ok (.putfield 30, 3) := by decide +kernel
theorem dX6_restart_25 : decode cX6_restart 25 = .ok (.return_, 1) := by decide +kernel
theorem dX6_append_0 : decode cX6_append 0 = .ok (.aload_n 0, 1) := by decide +kernel
theorem dX6_append_1 : decode cX6_append 1 = .ok (.getfield 30, 3) := by decide +kernel
theorem dX6_append_4 : decode cX6_append 4 = .ok (.aload_n 0, 1) := by decide +kernel
theorem dX6_append_5 : decode cX6_append 5 = .ok (.getfield 9, 3) := by decide +kernel
theorem dX6_append_8 : decode cX6_append 8 = .ok (.arraylength, 1) := by decide +kernel
theorem dX6_append_9 : decode cX6_append 9 = .ok (.if_icmp .ge 23, 3) := by decide +kernel
theorem dX6_append_12 : decode cX6_append 12 = .ok (.aload_n 0, 1) := by decide +kernel
theorem dX6_append_13 : decode cX6_append 13 = .ok (.getfield 9, 3) := by decide +kernel
theorem dX6_append_16 : decode cX6_append 16 = .ok (.aload_n 0, 1) := by decide +kernel
theorem dX6_append_17 : decode cX6_append 17 = .ok (.getfield 30, 3) := by decide +kernel
theorem dX6_append_20 : decode cX6_append 20 = .ok (.iload_n 1, 1) := by decide +kernel
theorem dX6_append_21 : decode cX6_append 21 = .ok (.iastore, 1) := by decide +kernel
theorem dX6_append_22 : decode cX6_append 22 = .ok (.aload_n 0, 1) := by decide +kernel
theorem dX6_append_23 : decode cX6_append 23 = .ok (.dup, 1) := by decide +kernel
theorem dX6_append_24 : decode cX6_append 24 = .ok (.getfield 30, 3) := by decide +kernel
theorem dX6_append_27 : decode cX6_append 27 = .ok (.iconst 1, 1) := by decide +kernel
theorem dX6_append_28 : decode cX6_append 28 = .ok (.iadd, 1) := by decide +kernel
theorem dX6_append_29 : decode cX6_append 29 = .ok (.putfield 30, 3) := by decide +kernel
theorem dX6_append_32 : decode cX6_append 32 = .ok (.return_, 1) := by decide +kernel
theorem dX6_byteAt_0 : decode cX6_byteAt 0 = .ok (.iload_n 1, 1) := by decide +kernel
theorem dX6_byteAt_1 : decode cX6_byteAt 1 = .ok (.ifCond .lt 20, 3) := by decide +kernel
theorem dX6_byteAt_4 : decode cX6_byteAt 4 = .ok (.iload_n 1, 1) := by decide +kernel
theorem dX6_byteAt_5 : decode cX6_byteAt 5 = .ok (.aload_n 0, 1) := by decide +kernel
theorem dX6_byteAt_6 : decode cX6_byteAt 6 = .ok (.getfield 30, 3) := by decide +kernel
theorem dX6_byteAt_9 : decode cX6_byteAt 9 = .ok (.if_icmp .ge 12, 3) := by decide +kernel
theorem dX6_byteAt_12 : decode cX6_byteAt 12 = .ok (.aload_n 0, 1) := by decide +kernel
theorem dX6_byteAt_13 : decode cX6_byteAt 13 = .ok (.getfield 9, 3) := by decide +kernel
theorem dX6_byteAt_16 : decode cX6_byteAt 16 = .ok (.iload_n 1, 1) := by decide +kernel
theorem dX6_byteAt_17 : decode cX6_byteAt 17 = .ok (.iaload, 1) := by decide +kernel
theorem dX6_byteAt_18 : decode cX6_byteAt 18 = .ok (.goto 4, 3) := by decide +kernel
theorem dX6_byteAt_21 : decode cX6_byteAt 21 = .ok (.iconst (-1), 1) := by decide +kernel
theorem dX6_byteAt_22 : decode cX6_byteAt 22 = .ok (.ireturn, 1) := by decide +kernel
theorem dX6_setByte_0 : decode cX6_setByte 0 = .ok (.iload_n 1, 1) := by decide +kernel
theorem dX6_setByte_1 : decode cX6_setByte 1 = .ok (.ifCond .lt 18, 3) := by decide +kernel
theorem dX6_setByte_4 : decode cX6_setByte 4 = .ok (.iload_n 1, 1) := by decide +kernel
theorem dX6_setByte_5 : decode cX6_setByte 5 = .ok (.aload_n 0, 1) := by decide +kernel
theorem dX6_setByte_6 : decode cX6_setByte 6 = .ok (.getfield 30, 3) := by decide +kernel
theorem dX6_setByte_9 : decode cX6_setByte 9 = .ok (.if_icmp .ge 10, 3) := by decide +kernel
theorem dX6_setByte_12 : decode cX6_setByte 12 = .ok (.aload_n 0, 1) := by decide +kernel
theorem dX6_setByte_13 : decode cX6_setByte 13 = .ok (.getfield 9, 3) := by decide +kernel
theorem dX6_setByte_16 : decode cX6_setByte 16 = .ok (.iload_n 1, 1) := by decide +kernel
theorem dX6_setByte_17 : decode cX6_setByte 17 = .ok (.iload_n 2, 1) := by decide +kernel
theorem dX6_setByte_18 : decode cX6_setByte 18 = .ok (.iastore, 1) := by decide +kernel
theorem dX6_setByte_19 : decode cX6_setByte 19 = .ok (.return_, 1) := by decide +kernel
set_option maxRecDepth 20000 in
theorem ggX6_sevenAt_X6_byteOrZero : GoodIn wsX6_sevenAt wsX6_byteOrZero := goodIn_r _ [5, 6, 7, 8, 9, 10, 11, 12, 4, 13, 14, 15, 16, 17] (by decide +kernel) (by decide +kernel)
set_option maxRecDepth 20000 in
theorem gX6_sevenAt_X6_byteOrZero : GoodIn wsX6_sevenAt (wsV RX6 34 RX6 yX6_byteOrZero wsX6_byteOrZero) := goodIn_app (goodIn_of _ (by decide +kernel)) ggX6_sevenAt_X6_byteOrZero
theorem dX6_sevenAt_0 : decode cX6_sevenAt 0 = .ok (.iconst 2, 1) := by decide +kernel
theorem dX6_sevenAt_1 : decode cX6_sevenAt 1 = .ok (.bipush 7, 2) := by decide +kernel
theorem dX6_sevenAt_3 : decode cX6_sevenAt 3 = .ok (.iload_n 1, 1) := by decide +kernel
theorem dX6_sevenAt_4 : decode cX6_sevenAt 4 = .ok (.imul, 1) := by decide +kernel
theorem dX6_sevenAt_5 : decode cX6_sevenAt 5 = .ok (.bipush 8, 2) := by decide +kernel
theorem dX6_sevenAt_7 : decode cX6_sevenAt 7 = .ok (.idiv, 1) := by decide +kernel
theorem dX6_sevenAt_8 : decode cX6_sevenAt 8 = .ok (.iadd, 1) := by decide +kernel
theorem dX6_sevenAt_9 : decode cX6_sevenAt 9 = .ok (.istore_n 2, 1) := by decide +kernel
theorem dX6_sevenAt_10 : decode cX6_sevenAt 10 = .ok (.aload_n 0, 1) := by decide +kernel
theorem dX6_sevenAt_11 : decode cX6_sevenAt 11 = .ok (.iload_n 2, 1) := by decide +kernel
theorem dX6_sevenAt_12 : decode cX6_sevenAt 12 = .ok (.invokevirtual 34, 3) := by decide +kernel
theorem dX6_sevenAt_15 : decode cX6_sevenAt 15 = .ok (.aload_n 0, 1) := by decide +kernel
theorem dX6_sevenAt_16 : decode cX6_sevenAt 16 = .ok (.iload_n 2, 1) := by decide +kernel
theorem dX6_sevenAt_17 : decode cX6_sevenAt 17 = .ok (.iconst 1, 1) := by decide +kernel
theorem dX6_sevenAt_18 : decode cX6_sevenAt 18 = .ok (.iadd, 1) := by decide +kernel
theorem dX6_sevenAt_19 : decode cX6_sevenAt 19 = .ok (.invokevirtual 34, 3) := by decide +kernel
theorem dX6_sevenAt_22 : decode cX6_sevenAt 22 = .ok (.bipush 8, 2) := by decide +kernel
theorem dX6_sevenAt_24 : decode cX6_sevenAt 24 = .ok (.ishl, 1) := by decide +kernel
theorem dX6_sevenAt_25 : decode cX6_sevenAt 25 = .ok (.ior, 1) := by decide +kernel
theorem dX6_sevenAt_26 : decode cX6_sevenAt 26 = .ok (.istore_n 3, 1) := by decide +kernel
theorem dX6_sevenAt_27 : decode cX6_sevenAt 27 = .ok (.iload_n 3, 1) := by decide +kernel
theorem dX6_sevenAt_28 : decode cX6_sevenAt 28 = .ok (.bipush 7, 2) := by decide +kernel
theorem dX6_sevenAt_30 : decode cX6_sevenAt 30 = .ok (.iload_n 1, 1) := by decide +kernel
theorem dX6_sevenAt_31 : decode cX6_sevenAt 31 = .ok (.imul, 1) := by decide +kernel
theorem dX6_sevenAt_32 : decode cX6_sevenAt 32 = .ok (.bipush 8, 2) := by decide +kernel
theorem dX6_sevenAt_34 : decode cX6_sevenAt 34 = .ok (.irem, 1) := by decide +kernel
theorem dX6_sevenAt_35 : decode cX6_sevenAt 35 = .ok (.ishr, 1) := by decide +kernel
theorem dX6_sevenAt_36 : decode cX6_sevenAt 36 = .ok (.bipush 127, 2) := by decide +kernel
theorem dX6_sevenAt_38 : decode cX6_sevenAt 38 = .ok (.iand, 1) := by decide +kernel
theorem dX6_sevenAt_39 : decode cX6_sevenAt 39 = .ok (.ireturn, 1) := by decide +kernel
set_option maxRecDepth 20000 in
theorem ggX6_addSeven_X6_byteOrZero : GoodIn wsX6_addSeven wsX6_byteOrZero := goodIn_r _ [5, 6, 7, 8, 9, 10, 11, 12, 4, 13, 14, 15, 20, 21] (by decide +kernel) (by decide +kernel)
set_option maxRecDepth 20000 in
theorem gX6_addSeven_X6_byteOrZero : GoodIn wsX6_addSeven (wsV RX6 34 RX6 yX6_byteOrZero wsX6_byteOrZero) := goodIn_app (goodIn_of _ (by decide +kernel)) ggX6_addSeven_X6_byteOrZero
set_option maxRecDepth 20000 in
theorem ggX6_addSeven_X6_setByte : GoodIn wsX6_addSeven wsX6_setByte := goodIn_r _ [19, 14, 15, 20, 21] (by decide +kernel) (by decide +kernel)
set_option maxRecDepth 20000 in
theorem gX6_addSeven_X6_setByte : GoodIn wsX6_addSeven (wsV RX6 38 RX6 yX6_setByte wsX6_setByte) := goodIn_app (goodIn_of _ (by decide +kernel)) ggX6_addSeven_X6_setByte
theorem dX6_addSeven_0 : decode cX6_addSeven 0 = .ok (.iconst 2, 1) := by decide +kernel
theorem dX6_addSeven_1 : decode cX6_addSeven 1 = .ok (.bipush 7, 2) := by decide +kernel
theorem dX6_addSeven_3 : decode cX6_addSeven 3 = .ok (.iload_n 1, 1) := by decide +kernel
theorem dX6_addSeven_4 : decode cX6_addSeven 4 = .ok (.imul, 1) := by decide +kernel
theorem dX6_addSeven_5 : decode cX6_addSeven 5 = .ok (.bipush 8, 2) := by decide +kernel
theorem dX6_addSeven_7 : decode cX6_addSeven 7 = .ok (.idiv, 1) := by decide +kernel
theorem dX6_addSeven_8 : decode cX6_addSeven 8 = .ok (.iadd, 1) := by decide +kernel
theorem dX6_addSeven_9 : decode cX6_addSeven 9 = .ok (.istore_n 3, 1) := by decide +kernel
theorem dX6_addSeven_10 : decode cX6_addSeven 10 = .ok (.iload_n 2, 1) := by decide +kernel
theorem dX6_addSeven_11 : decode cX6_addSeven 11 = .ok (.bipush 7, 2) := by decide +kernel
theorem dX6_addSeven_13 : decode cX6_addSeven 13 = .ok (.iload_n 1, 1) := by decide +kernel
theorem dX6_addSeven_14 : decode cX6_addSeven 14 = .ok (.imul, 1) := by decide +kernel
theorem dX6_addSeven_15 : decode cX6_addSeven 15 = .ok (.bipush 8, 2) := by decide +kernel
theorem dX6_addSeven_17 : decode cX6_addSeven 17 = .ok (.irem, 1) := by decide +kernel
theorem dX6_addSeven_18 : decode cX6_addSeven 18 = .ok (.ishl, 1) := by decide +kernel
theorem dX6_addSeven_19 : decode cX6_addSeven 19 = .ok (.istore 4, 2) := by decide +kernel
theorem dX6_addSeven_21 : decode cX6_addSeven 21 = .ok (.aload_n 0, 1) := by decide +kernel
theorem dX6_addSeven_22 : decode cX6_addSeven 22 = .ok (.iload_n 3, 1) := by decide +kernel
theorem dX6_addSeven_23 : decode cX6_addSeven 23 = .ok (.aload_n 0, 1) := by decide +kernel
theorem dX6_addSeven_24 : decode cX6_addSeven 24 = .ok (.iload_n 3, 1) := by decide +kernel
theorem dX6_addSeven_25 : decode cX6_addSeven 25 = .ok (.invokevirtual 34, 3) := by decide +kernel
theorem dX6_addSeven_28 : decode cX6_addSeven 28 = .ok (.iload 4, 2) := by decide +kernel
theorem dX6_addSeven_30 : decode cX6_addSeven 30 = .ok (.sipush 255, 3) := by decide +kernel
theorem dX6_addSeven_33 : decode cX6_addSeven 33 = .ok (.iand, 1) := by decide +kernel
theorem dX6_addSeven_34 : decode cX6_addSeven 34 = .ok (.ior, 1) := by decide +kernel
theorem dX6_addSeven_35 : decode cX6_addSeven 35 = .ok (.invokevirtual 38, 3) := by decide +kernel
theorem dX6_addSeven_38 : decode cX6_addSeven 38 = .ok (.aload_n 0, 1) := by decide +kernel
theorem dX6_addSeven_39 : decode cX6_addSeven 39 = .ok (.iload_n 3, 1) := by decide +kernel
theorem dX6_addSeven_40 : decode cX6_addSeven 40 = .ok (.iconst 1, 1) := by decide +kernel
theorem dX6_addSeven_41 : decode cX6_addSeven 41 = .ok (.iadd, 1) := by decide +kernel
theorem dX6_addSeven_42 : decode cX6_addSeven 42 = .ok (.aload_n 0, 1) := by decide +kernel
theorem dX6_addSeven_43 : decode cX6_addSeven 43 = .ok (.iload_n 3, 1) := by decide +kernel
theorem dX6_addSeven_44 : decode cX6_addSeven 44 = .ok (.iconst 1, 1) := by decide +kernel
theorem dX6_addSeven_45 : decode cX6_addSeven 45 = .ok (.iadd, 1) := by decide +kernel
theorem dX6_addSeven_46 : decode cX6_addSeven 46 = .ok (.invokevirtual 34, 3) := by decide +kernel
theorem dX6_addSeven_49 : decode cX6_addSeven 49 = .ok (.iload 4, 2) := by decide +kernel
theorem dX6_addSeven_51 : decode cX6_addSeven 51 = .ok (.bipush 8, 2) := by decide +kernel
theorem dX6_addSeven_53 : decode cX6_addSeven 53 = .ok (.ishr, 1) := by decide +kernel
theorem dX6_addSeven_54 : decode cX6_addSeven 54 = .ok (.ior, 1) := by decide +kernel
theorem dX6_addSeven_55 : decode cX6_addSeven 55 = .ok (.invokevirtual 38, 3) := by decide +kernel
theorem dX6_addSeven_58 : decode cX6_addSeven 58 = .ok (.return_, 1) := by decide +kernel
set_option maxRecDepth 20000 in
theorem ggX6_isBitSet_X6_byteOrZero : GoodIn wsX6_isBitSet wsX6_byteOrZero := goodIn_r _ [5, 6, 7, 8, 9, 10, 11, 12, 4, 13, 14, 15, 16, 17] (by decide +kernel) (by decide +kernel)
set_option maxRecDepth 20000 in
theorem gX6_isBitSet_X6_byteOrZero : GoodIn wsX6_isBitSet (wsV RX6 34 RX6 yX6_byteOrZero wsX6_byteOrZero) := goodIn_app (goodIn_of _ (by decide +kernel)) ggX6_isBitSet_X6_byteOrZero
theorem dX6_isBitSet_0 : decode cX6_isBitSet 0 = .ok (.aload_n 0, 1) := by decide +kernel
theorem dX6_isBitSet_1 : decode cX6_isBitSet 1 = .ok (.iconst 2, 1) := by decide +kernel
theorem dX6_isBitSet_2 : decode cX6_isBitSet 2 = .ok (.iload_n 1, 1) := by decide +kernel
theorem dX6_isBitSet_3 : decode cX6_isBitSet 3 = .ok (.bipush 8, 2) := by decide +kernel
theorem dX6_isBitSet_5 : decode cX6_isBitSet 5 = .ok (.idiv, 1) := by decide +kernel
theorem dX6_isBitSet_6 : decode cX6_isBitSet 6 = .ok (.iadd, 1) := by decide +kernel
theorem dX6_isBitSet_7 : decode cX6_isBitSet 7 = .ok (.invokevirtual 34, 3) := by decide +kernel
theorem dX6_isBitSet_10 : decode cX6_isBitSet 10 = .ok (.iload_n 1, 1) := by decide +kernel
theorem dX6_isBitSet_11 : decode cX6_isBitSet 11 = .ok (.bipush 8, 2) := by decide +kernel
theorem dX6_isBitSet_13 : decode cX6_isBitSet 13 = .ok (.irem, 1) := by decide +kernel
theorem dX6_isBitSet_14 : decode cX6_isBitSet 14 = .ok (.ishr, 1) := by decide +kernel
theorem dX6_isBitSet_15 : decode cX6_isBitSet 15 = .ok (.iconst 1, 1) := by decide +kernel
theorem dX6_isBitSet_16 : decode cX6_isBitSet 16 = .ok (.iand, 1) := by decide +kernel
theorem dX6_isBitSet_17 : decode cX6_isBitSet 17 = .ok (.iconst 1, 1) := by decide +kernel
theorem dX6_isBitSet_18 : decode cX6_isBitSet 18 = .ok (.if_icmp .ne 7, 3) := by decide +kernel
theorem dX6_isBitSet_21 : decode cX6_isBitSet 21 = .ok (.iconst 1, 1) := by decide +kernel
theorem dX6_isBitSet_22 : decode cX6_isBitSet 22 = .ok (.goto 4, 3) := by decide +kernel
theorem dX6_isBitSet_25 : decode cX6_isBitSet 25 = .ok (.iconst 0, 1) := by decide +kernel
theorem dX6_isBitSet_26 : decode cX6_isBitSet 26 = .ok (.ireturn, 1) := by decide +kernel
set_option maxRecDepth 20000 in
theorem ggX6_byteOrZero_X6_byteAt : GoodIn wsX6_byteOrZero wsX6_byteAt := goodIn_r _ [9, 10, 11, 12, 13] (by decide +kernel) (by decide +kernel)
set_option maxRecDepth 20000 in
theorem gX6_byteOrZero_X6_byteAt : GoodIn wsX6_byteOrZero (wsV RX6 42 RX6 yX6_byteAt wsX6_byteAt) := goodIn_app (goodIn_of _ (by decide +kernel)) ggX6_byteOrZero_X6_byteAt
theorem dX6_byteOrZero_0 : decode cX6_byteOrZero 0 = .ok (.iconst 0, 1) := by decide +kernel
theorem dX6_byteOrZero_1 : decode cX6_byteOrZero 1 = .ok (.aload_n 0, 1) := by decide +kernel
theorem dX6_byteOrZero_2 : decode cX6_byteOrZero 2 = .ok (.iload_n 1, 1) := by decide +kernel
theorem dX6_byteOrZero_3 : decode cX6_byteOrZero 3 = .ok (.invokevirtual 42, 3) := by decide +kernel
theorem dX6_byteOrZero_6 : decode cX6_byteOrZero 6 = .ok (.invokestatic 27, 3) := by decide +kernel
theorem dX6_byteOrZero_9 : decode cX6_byteOrZero 9 = .ok (.ireturn, 1) := by decide +kernel
theorem dX7_init_0 : decode cX7_init 0 = .ok (.aload_n 0, 1) := by decide +kernel
theorem dX7_init_1 : decode cX7_init 1 = .ok (.invokespecial 3, 3) := by decide +kernel
theorem dX7_init_4 : decode cX7_init 4 = .ok (.aload_n 0, 1) := by decide +kernel
theorem dX7_init_5 : decode cX7_init 5 = .ok (.sipush 3000, 3) := by decide +kernel
theorem dX7_init_8 : decode cX7_init 8 = .ok (.newarray .int, 2) := by decide +kernel
theorem dX7_init_10 : decode cX7_init 10 = .ok (.putfield 9, 3) := by decide +kernel
theorem dX7_init_13 : decode cX7_init 13 = .ok (.return_, 1) := by decide +kernel
set_option maxRecDepth 20000 in
theorem ggX7_append_X0_sevensFor : GoodIn wsX7_append wsX0_sevensFor := goodIn_r _ [8, 9, 10, 7, 11, 12, 13, 14, 15, 16, 17, 18, 19, 20, 21, 22, 23, 24] (by decide +kernel) (by decide +kernel)
set_option maxRecDepth 20000 in
theorem gX7_append_X0_sevensFor : GoodIn wsX7_append (va_wsS RX7 19 yX0_sevensFor wsX0_sevensFor) := goodIn_app (goodIn_of _ (by decide +kernel)) ggX7_append_X0_sevensFor
theorem dX7_append_0 : decode cX7_append 0 = .ok (.aload_n 0, 1) := by decide +kernel
theorem dX7_append_1 : decode cX7_append 1 = .ok (.getfield 15, 3) := by decide +kernel
theorem dX7_append_4 : decode cX7_append 4 = .ok (.aload_n 0, 1) := by decide +kernel
theorem dX7_append_5 : decode cX7_append 5 = .ok (.getfield 9, 3) := by decide +kernel
theorem dX7_append_8 : decode cX7_append 8 = .ok (.arraylength, 1) := by decide +kernel
theorem dX7_append_9 : decode cX7_append 9 = .ok (.if_icmp .lt 4, 3) := by decide +kernel
theorem dX7_append_12 : decode cX7_append 12 = .ok (.return_, 1) := by decide +kernel
theorem dX7_append_13 : decode cX7_append 13 = .ok (.aload_n 0, 1) := by decide +kernel
theorem dX7_append_14 : decode cX7_append 14 = .ok (.getfield 9, 3) := by decide +kernel
theorem dX7_append_17 : decode cX7_append 17 = .ok (.aload_n 0, 1) := by decide +kernel
theorem dX7_append_18 : decode cX7_append 18 = .ok (.getfield 15, 3) := by decide +kernel
theorem dX7_append_21 : decode cX7_append 21 = .ok (.iload_n 1, 1) := by decide +kernel
theorem dX7_append_22 : decode cX7_append 22 = .ok (.iastore, 1) := by decide +kernel
theorem dX7_append_23 : decode cX7_append 23 = .ok (.aload_n 0, 1) := by decide +kernel
theorem dX7_append_24 : decode cX7_append 24 = .ok (.dup, 1) := by decide +kernel
theorem dX7_append_25 : decode cX7_append 25 = .ok (.getfield 15, 3) := by decide +kernel
theorem dX7_append_28 : decode cX7_append 28 = .ok (.iconst 1, 1) := by decide +kernel
theorem dX7_append_29 : decode cX7_append 29 = .ok (.iadd, 1) := by decide +kernel
theorem dX7_append_30 : decode cX7_append 30 = .ok (.putfield 15, 3) := by decide +kernel
theorem dX7_append_33 : decode cX7_append 33 = .ok (.iload_n 1, 1) := by decide +kernel
theorem dX7_append_34 : decode cX7_append 34 = .ok (.invokestatic 19, 3) := by decide +kernel
theorem dX7_append_37 : decode cX7_append 37 = .ok (.istore_n 2, 1) := by decide +kernel
theorem dX7_append_38 : decode cX7_append 38 = .ok (.aload_n 0, 1) := by decide +kernel
theorem dX7_append_39 : decode cX7_append 39 = .ok (.dup, 1) := by decide +kernel
theorem dX7_append_40 : decode cX7_append 40 = .ok (.getfield 25, 3) := by decide +kernel
theorem dX7_append_43 : decode cX7_append 43 = .ok (.iload_n 2, 1) := by decide +kernel
theorem dX7_append_44 : decode cX7_append 44 = .ok (.iadd, 1) := by decide +kernel
theorem dX7_append_45 : decode cX7_append 45 = .ok (.putfield 25, 3) := by decide +kernel
theorem dX7_append_48 : decode cX7_append 48 = .ok (.iload_n 2, 1) := by decide +kernel
theorem dX7_append_49 : decode cX7_append 49 = .ok (.ifCond .ne 13, 3) := by decide +kernel
theorem dX7_append_52 : decode cX7_append 52 = .ok (.aload_n 0, 1) := by decide +kernel
theorem dX7_append_53 : decode cX7_append 53 = .ok (.dup, 1) := by decide +kernel
theorem dX7_append_54 : decode cX7_append 54 = .ok (.getfield 28, 3) := by decide +kernel
theorem dX7_append_57 : decode cX7_append 57 = .ok (.iconst 1, 1) := by decide +kernel
theorem dX7_append_58 : decode cX7_append 58 = .ok (.iadd, 1) := by decide +kernel
theorem dX7_append_59 : decode cX7_append 59 = .ok (.putfield 28, 3) := by decide +kernel
theorem dX7_append_62 : decode cX7_append 62 = .ok (.return_, 1) := by decide +kernel
theorem dX7_empty_0 : decode cX7_empty 0 = .ok (.aload_n 0, 1) := by decide +kernel
theorem dX7_empty_1 : decode cX7_empty 1 = .ok (.iconst 0, 1) := by decide +kernel
theorem dX7_empty_2 : decode cX7_empty 2 = .ok (.putfield 15, 3) := by decide +kernel
theorem dX7_empty_5 : decode cX7_empty 5 = .ok (.aload_n 0, 1) := by decide +kernel
theorem dX7_empty_6 : decode cX7_empty 6 = .ok (.iconst 0, 1) := by decide +kernel
theorem dX7_empty_7 : decode cX7_empty 7 = .ok (.putfield 25, 3) := by decide +kernel
theorem dX7_empty_10 : decode cX7_empty 10 = .ok (.aload_n 0, 1) := by decide +kernel
theorem dX7_empty_11 : decode cX7_empty 11 = .ok (.iconst 0, 1) := by decide +kernel
theorem dX7_empty_12 : decode cX7_empty 12 = .ok (.putfield 28, 3) := by decide +kernel
theorem dX7_empty_15 : decode cX7_empty 15 = .ok (.return_, 1) := by decide +kernel
theorem dX7_inAlphabet_0 : decode cX7_inAlphabet 0 = .ok (.aload_n 0, 1) := by decide +kernel
theorem dX7_inAlphabet_1 : decode cX7_inAlphabet 1 = .ok (.getfield 28, 3) := by decide +kernel
theorem dX7_inAlphabet_4 : decode cX7_inAlphabet 4 = .ok (.ifCond .ne 7, 3) := by decide +kernel
theorem dX7_inAlphabet_7 : decode cX7_inAlphabet 7 = .ok (.iconst 1, 1) := by decide +kernel
theorem dX7_inAlphabet_8 : decode cX7_inAlphabet 8 = .ok (.goto 4, 3) := by decide +kernel
theorem dX7_inAlphabet_11 : decode cX7_inAlphabet 11 = .ok (.iconst 0, 1) := by decide +kernel
theorem dX7_inAlphabet_12 : decode cX7_inAlphabet 12 = .ok (.ireturn, 1) := by decide +kernel
set_option maxRecDepth 20000 in
theorem ggX7_partCount_X7_fitsAlone : GoodIn wsX7_partCount wsX7_fitsAlone := goodIn_r _ [6, 7, 1, 8, 9, 10, 5, 11, 12, 60, 61, 62, 63] (by decide +kernel) (by decide +kernel)
set_option maxRecDepth 20000 in
theorem gX7_partCount_X7_fitsAlone : GoodIn wsX7_partCount (wsV RX7 31 RX7 yX7_fitsAlone wsX7_fitsAlone) := goodIn_app (goodIn_of _ (by decide +kernel)) ggX7_partCount_X7_fitsAlone
set_option maxRecDepth 20000 in
theorem ggX7_partCount_X7_partEnd : GoodIn wsX7_partCount wsX7_partEnd := goodIn_r _ [16, 8, 9, 10, 5, 11, 12, 17, 18, 19, 20, 1, 21, 22, 23, 24, 25, 26, 27, 28, 29, 30, 31, 32, 33, 34, 35, 36, 37, 38, 39, 40, 41, 42, 43, 44, 45, 46, 47, 48, 49, 50, 51, 52, 53, 54, 55, 56, 57, 58, 59, 60, 61, 62, 63] (by decide +kernel) (by decide +kernel)
set_option maxRecDepth 20000 in
theorem gX7_partCount_X7_partEnd : GoodIn wsX7_partCount (wsV RX7 35 RX7 yX7_partEnd wsX7_partEnd) := goodIn_app (goodIn_of _ (by decide +kernel)) ggX7_partCount_X7_partEnd
theorem dX7_partCount_0 : decode cX7_partCount 0 = .ok (.aload_n 0, 1) := by decide +kernel
theorem dX7_partCount_1 : decode cX7_partCount 1 = .ok (.invokevirtual 31, 3) := by decide +kernel
theorem dX7_partCount_4 : decode cX7_partCount 4 = .ok (.ifCond .eq 5, 3) := by decide +kernel
theorem dX7_partCount_7 : decode cX7_partCount 7 = .ok (.iconst 1, 1) := by decide +kernel
theorem dX7_partCount_8 : decode cX7_partCount 8 = .ok (.ireturn, 1) := by decide +kernel
theorem dX7_partCount_9 : decode cX7_partCount 9 = .ok (.iconst 0, 1) := by decide +kernel
theorem dX7_partCount_10 : decode cX7_partCount 10 = .ok (.istore_n 1, 1) := by decide +kernel
theorem dX7_partCount_11 : decode cX7_partCount 11 = .ok (.iconst 0, 1) := by decide +kernel
theorem dX7_partCount_12 : decode cX7_partCount 12 = .ok (.istore_n 2, 1) := by decide +kernel
theorem dX7_partCount_13 : decode cX7_partCount 13 = .ok (.iload_n 2, 1) := by decide +kernel
theorem dX7_partCount_14 : decode cX7_partCount 14 = .ok (.sipush 255, 3) := by decide +kernel
theorem dX7_partCount_17 : decode cX7_partCount 17 = .ok (.if_icmp .gt 25, 3) := by decide +kernel
theorem dX7_partCount_20 : decode cX7_partCount 20 = .ok (.iload_n 1, 1) := by decide +kernel
theorem dX7_partCount_21 : decode cX7_partCount 21 = .ok (.aload_n 0, 1) := by decide +kernel
theorem dX7_partCount_22 : decode cX7_partCount 22 = .ok (.getfield 15, 3) := by decide +kernel
theorem dX7_partCount_25 : decode cX7_partCount 25 = .ok (.if_icmp .lt 5, 3) := by decide +kernel
theorem dX7_partCount_28 : decode cX7_partCount 28 = .ok (.iload_n 2, 1) := by decide +kernel
theorem dX7_partCount_29 : decode cX7_partCount 29 = .ok (.ireturn, 1) := by decide +kernel
theorem dX7_partCount_30 : decode cX7_partCount 30 = .ok (.aload_n 0, 1) := by decide +kernel
theorem dX7_partCount_31 : decode cX7_partCount 31 = .ok (.iload_n 1, 1) := by decide +kernel
theorem dX7_partCount_32 : decode cX7_partCount 32 = .ok (.invokevirtual 35, 3) := by decide +kernel
theorem dX7_partCount_35 : decode cX7_partCount 35 = .ok (.istore_n 1, 1) := by decide +kernel
theorem dX7_partCount_36 : decode cX7_partCount 36 = .ok (.iinc 2 1, 3) := by decide +kernel
theorem dX7_partCount_39 : decode cX7_partCount 39 = .ok (.goto (-26), 3) := by decide +kernel
theorem dX7_partCount_42 : decode cX7_partCount 42 = .ok (.iconst 0, 1) := by decide +kernel
theorem dX7_partCount_43 : decode cX7_partCount 43 = .ok (.ireturn, 1) := by decide +kernel
set_option maxRecDepth 20000 in
theorem ggX7_partEnd_X7_inAlphabet : GoodIn wsX7_partEnd wsX7_inAlphabet := goodIn_r _ [5, 6, 51, 52, 53, 54] (by decide +kernel) (by decide +kernel)
set_option maxRecDepth 20000 in
theorem gX7_partEnd_X7_inAlphabet : GoodIn wsX7_partEnd (wsV RX7 38 RX7 yX7_inAlphabet wsX7_inAlphabet) := goodIn_app (goodIn_of _ (by decide +kernel)) ggX7_partEnd_X7_inAlphabet
set_option maxRecDepth 20000 in
theorem ggX7_partEnd_X7_sevensEnd : GoodIn wsX7_partEnd wsX7_sevensEnd := goodIn_r _ [10, 11, 12, 13, 14, 4, 15, 16, 17, 18, 19, 20, 21, 22, 23, 24, 25, 26, 27, 28, 29, 30, 31, 32, 33, 34, 35, 36, 51, 52, 53, 54] (by decide +kernel) (by decide +kernel)
set_option maxRecDepth 20000 in
theorem gX7_partEnd_X7_sevensEnd : GoodIn wsX7_partEnd (wsV RX7 41 RX7 yX7_sevensEnd wsX7_sevensEnd) := goodIn_app (goodIn_of _ (by decide +kernel)) ggX7_partEnd_X7_sevensEnd
set_option maxRecDepth 20000 in
theorem ggX7_partEnd_X7_pairsEnd : GoodIn wsX7_partEnd wsX7_pairsEnd := goodIn_r _ [40, 11, 12, 13, 14, 4, 15, 16, 41, 42, 43, 44, 45, 46, 47, 48, 49, 50, 51, 52, 53, 54] (by decide +kernel) (by decide +kernel)
set_option maxRecDepth 20000 in
theorem gX7_partEnd_X7_pairsEnd : GoodIn wsX7_partEnd (wsV RX7 44 RX7 yX7_pairsEnd wsX7_pairsEnd) := goodIn_app (goodIn_of _ (by decide +kernel)) ggX7_partEnd_X7_pairsEnd
theorem dX7_partEnd_0 : decode cX7_partEnd 0 = .ok (.aload_n 0, 1) := by decide +kernel
theorem dX7_partEnd_1 : decode cX7_partEnd 1 = .ok (.invokevirtual 38, 3) := by decide +kernel
theorem dX7_partEnd_4 : decode cX7_partEnd 4 = .ok (.ifCond .eq 11, 3) := by decide +kernel
theorem dX7_partEnd_7 : decode cX7_partEnd 7 = .ok (.aload_n 0, 1) := by decide +kernel
theorem dX7_partEnd_8 : decode cX7_partEnd 8 = .ok (.iload_n 1, 1) := by decide +kernel
theorem dX7_partEnd_9 : decode cX7_partEnd 9 = .ok (.invokevirtual 41, 3) := by decide +kernel
theorem dX7_partEnd_12 : decode cX7_partEnd 12 = .ok (.goto 8, 3) := by decide +kernel
theorem dX7_partEnd_15 : decode cX7_partEnd 15 = .ok (.aload_n 0, 1) := by decide +kernel
theorem dX7_partEnd_16 : decode cX7_partEnd 16 = .ok (.iload_n 1, 1) := by decide +kernel
theorem dX7_partEnd_17 : decode cX7_partEnd 17 = .ok (.invokevirtual 44, 3) := by decide +kernel
theorem dX7_partEnd_20 : decode cX7_partEnd 20 = .ok (.ireturn, 1) := by decide +kernel
set_option maxRecDepth 20000 in
theorem ggX7_sevensBetween_X7_unitAt : GoodIn wsX7_sevensBetween wsX7_unitAt := goodIn_r _ [5, 6, 7, 28, 29, 30, 31] (by decide +kernel) (by decide +kernel)
set_option maxRecDepth 20000 in
theorem gX7_sevensBetween_X7_unitAt : GoodIn wsX7_sevensBetween (wsV RX7 47 RX7 yX7_unitAt wsX7_unitAt) := goodIn_app (goodIn_of _ (by decide +kernel)) ggX7_sevensBetween_X7_unitAt
set_option maxRecDepth 20000 in
theorem ggX7_sevensBetween_X0_sevensFor : GoodIn wsX7_sevensBetween wsX0_sevensFor := goodIn_r _ [11, 12, 13, 10, 14, 15, 16, 17, 18, 19, 20, 21, 22, 23, 24, 25, 26, 27] (by decide +kernel) (by decide +kernel)
set_option maxRecDepth 20000 in
theorem gX7_sevensBetween_X0_sevensFor : GoodIn wsX7_sevensBetween (va_wsS RX7 19 yX0_sevensFor wsX0_sevensFor) := goodIn_app (goodIn_of _ (by decide +kernel)) ggX7_sevensBetween_X0_sevensFor
theorem dX7_sevensBetween_0 : decode cX7_sevensBetween 0 = .ok (.iconst 0, 1) := by decide +kernel
theorem dX7_sevensBetween_1 : decode cX7_sevensBetween 1 = .ok (.istore_n 3, 1) := by decide +kernel
theorem dX7_sevensBetween_2 : decode cX7_sevensBetween 2 = .ok (.iload_n 1, 1) := by decide +kernel
theorem dX7_sevensBetween_3 : decode cX7_sevensBetween 3 = .ok (.istore 4, 2) := by decide +kernel
theorem dX7_sevensBetween_5 : decode cX7_sevensBetween 5 = .ok (.iload 4, 2) := by decide +kernel
theorem dX7_sevensBetween_7 : decode cX7_sevensBetween 7 = .ok (.iload_n 2, 1) := by decide +kernel
theorem dX7_sevensBetween_8 : decode cX7_sevensBetween 8 = .ok (.if_icmp .ge 21, 3) := by decide +kernel
theorem dX7_sevensBetween_11 : decode cX7_sevensBetween 11 = .ok (.iload_n 3, 1) := by decide +kernel
theorem dX7_sevensBetween_12 : decode cX7_sevensBetween 12 = .ok (.aload_n 0, 1) := by decide +kernel
theorem dX7_sevensBetween_13 : decode cX7_sevensBetween 13 = .ok (.iload 4, 2) := by decide +kernel
theorem dX7_sevensBetween_15 : decode cX7_sevensBetween 15 = .ok (.invokevirtual 47, 3) := by decide +kernel
theorem dX7_sevensBetween_18 : decode cX7_sevensBetween 18 = .ok (.invokestatic 19, 3) := by decide +kernel
theorem dX7_sevensBetween_21 : decode cX7_sevensBetween 21 = .ok (.iadd, 1) := by decide +kernel
theorem dX7_sevensBetween_22 : decode cX7_sevensBetween 22 = .ok (.istore_n 3, 1) := by decide +kernel
theorem dX7_sevensBetween_23 : decode cX7_sevensBetween 23 = .ok (.iinc 4 1, 3) := by decide +kernel
theorem dX7_sevensBetween_26 : decode cX7_sevensBetween 26 = .ok (.goto (-21), 3) := by decide +kernel
theorem dX7_sevensBetween_29 : decode cX7_sevensBetween 29 = .ok (.iload_n 3, 1) := by decide +kernel
theorem dX7_sevensBetween_30 : decode cX7_sevensBetween 30 = .ok (.ireturn, 1) := by decide +kernel
theorem dX7_unitAt_0 : decode cX7_unitAt 0 = .ok (.iload_n 1, 1) := by decide +kernel
theorem dX7_unitAt_1 : decode cX7_unitAt 1 = .ok (.ifCond .lt 20, 3) := by decide +kernel
theorem dX7_unitAt_4 : decode cX7_unitAt 4 = .ok (.iload_n 1, 1) := by decide +kernel
theorem dX7_unitAt_5 : decode cX7_unitAt 5 = .ok (.aload_n 0, 1) := by decide +kernel
theorem dX7_unitAt_6 : decode cX7_unitAt 6 = .ok (.getfield 15, 3) := by decide +kernel
theorem dX7_unitAt_9 : decode cX7_unitAt 9 = .ok (.if_icmp .ge 12, 3) := by decide +kernel
theorem dX7_unitAt_12 : decode cX7_unitAt 12 = .ok (.aload_n 0, 1) := by decide +kernel
theorem dX7_unitAt_13 : decode cX7_unitAt 13 = .ok (.getfield 9, 3) := by decide +kernel
theorem dX7_unitAt_16 : decode cX7_unitAt 16 = .ok (.iload_n 1, 1) := by decide +kernel
theorem dX7_unitAt_17 : decode cX7_unitAt 17 = .ok (.iaload, 1) := by decide +kernel
theorem dX7_unitAt_18 : decode cX7_unitAt 18 = .ok (.goto 4, 3) := by decide +kernel
theorem dX7_unitAt_21 : decode cX7_unitAt 21 = .ok (.iconst (-1), 1) := by decide +kernel
theorem dX7_unitAt_22 : decode cX7_unitAt 22 = .ok (.ireturn, 1) := by decide +kernel
set_option maxRecDepth 20000 in
theorem ggX7_fitsAlone_X7_inAlphabet : GoodIn wsX7_fitsAlone wsX7_inAlphabet := goodIn_r _ [7, 8, 9, 10, 11, 12] (by decide +kernel) (by decide +kernel)
set_option maxRecDepth 20000 in
theorem gX7_fitsAlone_X7_inAlphabet : GoodIn wsX7_fitsAlone (wsV RX7 38 RX7 yX7_inAlphabet wsX7_inAlphabet) := goodIn_app (goodIn_of _ (by decide +kernel)) ggX7_fitsAlone_X7_inAlphabet
theorem dX7_fitsAlone_0 : decode cX7_fitsAlone 0 = .ok (.aload_n 0, 1) := by decide +kernel
theorem dX7_fitsAlone_1 : decode cX7_fitsAlone 1 = .ok (.invokevirtual 38, 3) := by decide +kernel
theorem dX7_fitsAlone_4 : decode cX7_fitsAlone 4 = .ok (.ifCond .eq 21, 3) := by decide +kernel
theorem dX7_fitsAlone_7 : decode cX7_fitsAlone 7 = .ok (.aload_n 0, 1) := by decide +kernel
theorem dX7_fitsAlone_8 : decode cX7_fitsAlone 8 = .ok (.getfield 25, 3) := by decide +kernel
theorem dX7_fitsAlone_11 : decode cX7_fitsAlone 11 = .ok (.sipush 160, 3) := by decide +kernel
theorem dX7_fitsAlone_14 : decode cX7_fitsAlone 14 = .ok (.if_icmp .gt 7, 3) := by decide +kernel
theorem dX7_fitsAlone_17 : decode cX7_fitsAlone 17 = .ok (.iconst 1, 1) := by decide +kernel
theorem dX7_fitsAlone_18 : decode cX7_fitsAlone 18 = .ok (.goto 24, 3) := by decide +kernel
theorem dX7_fitsAlone_21 : decode cX7_fitsAlone 21 = .ok (.iconst 0, 1) := by decide +kernel
theorem dX7_fitsAlone_22 : decode cX7_fitsAlone 22 = .ok (.goto 20, 3) := by decide +kernel
theorem dX7_fitsAlone_25 : decode cX7_fitsAlone 25 = .ok (.iconst 2, 1) := by decide +kernel
theorem dX7_fitsAlone_26 : decode cX7_fitsAlone 26 = .ok (.aload_n 0, 1) := by decide +kernel
theorem dX7_fitsAlone_27 : decode cX7_fitsAlone 27 = .ok (.getfield 15, 3) := by decide +kernel
theorem dX7_fitsAlone_30 : decode cX7_fitsAlone 30 = .ok (.imul, 1) := by decide +kernel
theorem dX7_fitsAlone_31 : decode cX7_fitsAlone 31 = .ok (.sipush 140, 3) := by decide +kernel
theorem dX7_fitsAlone_34 : decode cX7_fitsAlone 34 = .ok (.if_icmp .gt 7, 3) := by decide +kernel
theorem dX7_fitsAlone_37 : decode cX7_fitsAlone 37 = .ok (.iconst 1, 1) := by decide +kernel
theorem dX7_fitsAlone_38 : decode cX7_fitsAlone 38 = .ok (.goto 4, 3) := by decide +kernel
theorem dX7_fitsAlone_41 : decode cX7_fitsAlone 41 = .ok (.iconst 0, 1) := by decide +kernel
theorem dX7_fitsAlone_42 : decode cX7_fitsAlone 42 = .ok (.ireturn, 1) := by decide +kernel
set_option maxRecDepth 20000 in
theorem ggX7_sevensEnd_X7_unitAt : GoodIn wsX7_sevensEnd wsX7_unitAt := goodIn_r _ [6, 1, 7, 28, 29, 30, 31] (by decide +kernel) (by decide +kernel)
set_option maxRecDepth 20000 in
theorem gX7_sevensEnd_X7_unitAt : GoodIn wsX7_sevensEnd (wsV RX7 47 RX7 yX7_unitAt wsX7_unitAt) := goodIn_app (goodIn_of _ (by decide +kernel)) ggX7_sevensEnd_X7_unitAt
set_option maxRecDepth 20000 in
theorem ggX7_sevensEnd_X0_sevensFor : GoodIn wsX7_sevensEnd wsX0_sevensFor := goodIn_r _ [11, 12, 13, 10, 14, 15, 16, 17, 18, 19, 20, 21, 22, 23, 24, 25, 26, 27] (by decide +kernel) (by decide +kernel)
set_option maxRecDepth 20000 in
theorem gX7_sevensEnd_X0_sevensFor : GoodIn wsX7_sevensEnd (va_wsS RX7 19 yX0_sevensFor wsX0_sevensFor) := goodIn_app (goodIn_of _ (by decide +kernel)) ggX7_sevensEnd_X0_sevensFor
theorem dX7_sevensEnd_0 : decode cX7_sevensEnd 0 = .ok (.sipush 153, 3) := by decide +kernel
theorem dX7_sevensEnd_3 : decode cX7_sevensEnd 3 = .ok (.istore_n 2, 1) := by decide +kernel
theorem dX7_sevensEnd_4 : decode cX7_sevensEnd 4 = .ok (.iload_n 1, 1) := by decide +kernel
theorem dX7_sevensEnd_5 : decode cX7_sevensEnd 5 = .ok (.istore_n 3, 1) := by decide +kernel
theorem dX7_sevensEnd_6 : decode cX7_sevensEnd 6 = .ok (.iload_n 3, 1) := by decide +kernel
theorem dX7_sevensEnd_7 : decode cX7_sevensEnd 7 = .ok (.aload_n 0, 1) := by decide +kernel
theorem dX7_sevensEnd_8 : decode cX7_sevensEnd 8 = .ok (.getfield 15, 3) := by decide +kernel
theorem dX7_sevensEnd_11 : decode cX7_sevensEnd 11 = .ok (.if_icmp .ge 26, 3) := by decide +kernel
theorem dX7_sevensEnd_14 : decode cX7_sevensEnd 14 = .ok (.iload_n 2, 1) := by decide +kernel
theorem dX7_sevensEnd_15 : decode cX7_sevensEnd 15 = .ok (.aload_n 0, 1) := by decide +kernel
theorem dX7_sevensEnd_16 : decode cX7_sevensEnd 16 = .ok (.iload_n 3, 1) := by decide +kernel
theorem dX7_sevensEnd_17 : decode cX7_sevensEnd 17 = .ok (.invokevirtual 47, 3) := by decide +kernel
theorem dX7_sevensEnd_20 : decode cX7_sevensEnd 20 = .ok (.invokestatic 19, 3) := by decide +kernel
theorem dX7_sevensEnd_23 : decode cX7_sevensEnd 23 = .ok (.isub, 1) := by decide +kernel
theorem dX7_sevensEnd_24 : decode cX7_sevensEnd 24 = .ok (.istore_n 2, 1) := by decide +kernel
theorem dX7_sevensEnd_25 : decode cX7_sevensEnd 25 = .ok (.iload_n 2, 1) := by decide +kernel
theorem dX7_sevensEnd_26 : decode cX7_sevensEnd 26 = .ok (.ifCond .ge 5, 3) := by decide +kernel
theorem dX7_sevensEnd_29 : decode cX7_sevensEnd 29 = .ok (.iload_n 3, 1) := by decide +kernel
theorem dX7_sevensEnd_30 : decode cX7_sevensEnd 30 = .ok (.ireturn, 1) := by decide +kernel
theorem dX7_sevensEnd_31 : decode cX7_sevensEnd 31 = .ok (.iinc 3 1, 3) := by decide +kernel
theorem dX7_sevensEnd_34 : decode cX7_sevensEnd 34 = .ok (.goto (-28), 3) := by decide +kernel
theorem dX7_sevensEnd_37 : decode cX7_sevensEnd 37 = .ok (.aload_n 0, 1) := by decide +kernel
theorem dX7_sevensEnd_38 : decode cX7_sevensEnd 38 = .ok (.getfield 15, 3) := by decide +kernel
theorem dX7_sevensEnd_41 : decode cX7_sevensEnd 41 = .ok (.ireturn, 1) := by decide +kernel
set_option maxRecDepth 20000 in
theorem ggX7_pairsEnd_X7_unitAt : GoodIn wsX7_pairsEnd wsX7_unitAt := goodIn_r _ [6, 1, 7, 18, 19, 20, 21] (by decide +kernel) (by decide +kernel)
set_option maxRecDepth 20000 in
theorem gX7_pairsEnd_X7_unitAt : GoodIn wsX7_pairsEnd (wsV RX7 47 RX7 yX7_unitAt wsX7_unitAt) := goodIn_app (goodIn_of _ (by decide +kernel)) ggX7_pairsEnd_X7_unitAt
set_option maxRecDepth 20000 in
theorem ggX7_pairsEnd_X7_isHigh : GoodIn wsX7_pairsEnd wsX7_isHigh := goodIn_r _ [10, 11, 12] (by decide +kernel) (by decide +kernel)
set_option maxRecDepth 20000 in
theorem gX7_pairsEnd_X7_isHigh : GoodIn wsX7_pairsEnd (va_wsS RX7 50 yX7_isHigh wsX7_isHigh) := goodIn_app (goodIn_of _ (by decide +kernel)) ggX7_pairsEnd_X7_isHigh
set_option maxRecDepth 20000 in
theorem ggX7_pairsEnd_X7_isLow : GoodIn wsX7_pairsEnd wsX7_isLow := goodIn_r _ [15, 16, 17] (by decide +kernel) (by decide +kernel)
set_option maxRecDepth 20000 in
theorem gX7_pairsEnd_X7_isLow : GoodIn wsX7_pairsEnd (va_wsS RX7 54 yX7_isLow wsX7_isLow) := goodIn_app (goodIn_of _ (by decide +kernel)) ggX7_pairsEnd_X7_isLow
theorem dX7_pairsEnd_0 : decode cX7_pairsEnd 0 = .ok (.iload_n 1, 1) := by decide +kernel
theorem dX7_pairsEnd_1 : decode cX7_pairsEnd 1 = .ok (.bipush 67, 2) := by decide +kernel
theorem dX7_pairsEnd_3 : decode cX7_pairsEnd 3 = .ok (.iadd, 1) := by decide +kernel
theorem dX7_pairsEnd_4 : decode cX7_pairsEnd 4 = .ok (.istore_n 2, 1) := by decide +kernel
theorem dX7_pairsEnd_5 : decode cX7_pairsEnd 5 = .ok (.iload_n 2, 1) := by decide +kernel
theorem dX7_pairsEnd_6 : decode cX7_pairsEnd 6 = .ok (.aload_n 0, 1) := by decide +kernel
theorem dX7_pairsEnd_7 : decode cX7_pairsEnd 7 = .ok (.getfield 15, 3) := by decide +kernel
theorem dX7_pairsEnd_10 : decode cX7_pairsEnd 10 = .ok (.if_icmp .lt 8, 3) := by decide +kernel
theorem dX7_pairsEnd_13 : decode cX7_pairsEnd 13 = .ok (.aload_n 0, 1) := by decide +kernel
theorem dX7_pairsEnd_14 : decode cX7_pairsEnd 14 = .ok (.getfield 15, 3) := by decide +kernel
theorem dX7_pairsEnd_17 : decode cX7_pairsEnd 17 = .ok (.ireturn, 1) := by decide +kernel
theorem dX7_pairsEnd_18 : decode cX7_pairsEnd 18 = .ok (.aload_n 0, 1) := by decide +kernel
theorem dX7_pairsEnd_19 : decode cX7_pairsEnd 19 = .ok (.iload_n 2, 1) := by decide +kernel
theorem dX7_pairsEnd_20 : decode cX7_pairsEnd 20 = .ok (.iconst 1, 1) := by decide +kernel
theorem dX7_pairsEnd_21 : decode cX7_pairsEnd 21 = .ok (.isub, 1) := by decide +kernel
theorem dX7_pairsEnd_22 : decode cX7_pairsEnd 22 = .ok (.invokevirtual 47, 3) := by decide +kernel
theorem dX7_pairsEnd_25 : decode cX7_pairsEnd 25 = .ok (.invokestatic 50, 3) := by decide +kernel
theorem dX7_pairsEnd_28 : decode cX7_pairsEnd 28 = .ok (.ifCond .eq 20, 3) := by decide +kernel
theorem dX7_pairsEnd_31 : decode cX7_pairsEnd 31 = .ok (.aload_n 0, 1) := by decide +kernel
theorem dX7_pairsEnd_32 : decode cX7_pairsEnd 32 = .ok (.iload_n 2, 1) := by decide +kernel
theorem dX7_pairsEnd_33 : decode cX7_pairsEnd 33 = .ok (.invokevirtual 47, 3) := by decide +kernel
theorem dX7_pairsEnd_36 : decode cX7_pairsEnd 36 = .ok (.invokestatic 54, 3) := by decide +kernel
theorem dX7_pairsEnd_39 : decode cX7_pairsEnd 39 = .ok (.ifCond .eq 9, 3) := by decide +kernel
theorem dX7_pairsEnd_42 : decode cX7_pairsEnd 42 = .ok (.iload_n 2, 1) := by decide +kernel
theorem dX7_pairsEnd_43 : decode cX7_pairsEnd 43 = .ok (.iconst 1, 1) := by decide +kernel
theorem dX7_pairsEnd_44 : decode cX7_pairsEnd 44 = .ok (.isub, 1) := by decide +kernel
theorem dX7_pairsEnd_45 : decode cX7_pairsEnd 45 = .ok (.goto 4, 3) := by decide +kernel
theorem dX7_pairsEnd_48 : decode cX7_pairsEnd 48 = .ok (.iload_n 2, 1) := by decide +kernel
theorem dX7_pairsEnd_49 : decode cX7_pairsEnd 49 = .ok (.ireturn, 1) := by decide +kernel
theorem dX7_isHigh_0 : decode cX7_isHigh 0 = .ok (.iload_n 0, 1) := by decide +kernel
theorem dX7_isHigh_1 : decode cX7_isHigh 1 = .ok (.ldc 57, 2) := by decide +kernel
theorem dX7_isHigh_3 : decode cX7_isHigh 3 = .ok (.if_icmp .lt 13, 3) := by decide +kernel
theorem dX7_isHigh_6 : decode cX7_isHigh 6 = .ok (.iload_n 0, 1) := by decide +kernel
theorem dX7_isHigh_7 : decode cX7_isHigh 7 = .ok (.ldc 58, 2) := by decide +kernel
theorem dX7_isHigh_9 : decode cX7_isHigh 9 = .ok (.if_icmp .gt 7, 3) := by decide +kernel
theorem dX7_isHigh_12 : decode cX7_isHigh 12 = .ok (.iconst 1, 1) := by decide +kernel
theorem dX7_isHigh_13 : decode cX7_isHigh 13 = .ok (.goto 4, 3) := by decide +kernel
theorem dX7_isHigh_16 : decode cX7_isHigh 16 = .ok (.iconst 0, 1) := by decide +kernel
theorem dX7_isHigh_17 : decode cX7_isHigh 17 = .ok (.ireturn, 1) := by decide +kernel
theorem dX7_isLow_0 : decode cX7_isLow 0 = .ok (.iload_n 0, 1) := by decide +kernel
theorem dX7_isLow_1 : decode cX7_isLow 1 = .ok (.ldc 59, 2) := by decide +kernel
theorem dX7_isLow_3 : decode cX7_isLow 3 = .ok (.if_icmp .lt 13, 3) := by decide +kernel
theorem dX7_isLow_6 : decode cX7_isLow 6 = .ok (.iload_n 0, 1) := by decide +kernel
theorem dX7_isLow_7 : decode cX7_isLow 7 = .ok (.ldc 60, 2) := by decide +kernel
theorem dX7_isLow_9 : decode cX7_isLow 9 = .ok (.if_icmp .gt 7, 3) := by decide +kernel
theorem dX7_isLow_12 : decode cX7_isLow 12 = .ok (.iconst 1, 1) := by decide +kernel
theorem dX7_isLow_13 : decode cX7_isLow 13 = .ok (.goto 4, 3) := by decide +kernel
theorem dX7_isLow_16 : decode cX7_isLow 16 = .ok (.iconst 0, 1) := by decide +kernel
theorem dX7_isLow_17 : decode cX7_isLow 17 = .ok (.ireturn, 1) := by decide +kernel
theorem dJ7_fill_53178_0 : decode cJ7_fill_53178 0 = .ok (.iconst 0, 1) := by decide +kernel
theorem dJ7_fill_53178_1 : decode cJ7_fill_53178 1 = .ok (.istore_n 2, 1) := by decide +kernel
theorem dJ7_fill_53178_2 : decode cJ7_fill_53178 2 = .ok (.aload_n 0, 1) := by decide +kernel
theorem dJ7_fill_53178_3 : decode cJ7_fill_53178 3 = .ok (.arraylength, 1) := by decide +kernel
theorem dJ7_fill_53178_4 : decode cJ7_fill_53178 4 = .ok (.istore_n 3, 1) := by decide +kernel
theorem dJ7_fill_53178_5 : decode cJ7_fill_53178 5 = .ok (.iload_n 2, 1) := by decide +kernel
theorem dJ7_fill_53178_6 : decode cJ7_fill_53178 6 = .ok (.iload_n 3, 1) := by decide +kernel
theorem dJ7_fill_53178_7 : decode cJ7_fill_53178 7 = .ok (.if_icmp .ge 13, 3) := by decide +kernel
theorem dJ7_fill_53178_10 : decode cJ7_fill_53178 10 = .ok (.aload_n 0, 1) := by decide +kernel
theorem dJ7_fill_53178_11 : decode cJ7_fill_53178 11 = .ok (.iload_n 2, 1) := by decide +kernel
theorem dJ7_fill_53178_12 : decode cJ7_fill_53178 12 = .ok (.iload_n 1, 1) := by decide +kernel
theorem dJ7_fill_53178_13 : decode cJ7_fill_53178 13 = .ok (.iastore, 1) := by decide +kernel
theorem dJ7_fill_53178_14 : decode cJ7_fill_53178 14 = .ok (.iinc 2 1, 3) := by decide +kernel
theorem dJ7_fill_53178_17 : decode cJ7_fill_53178 17 = .ok (.goto (-12), 3) := by decide +kernel
theorem dJ7_fill_53178_20 : decode cJ7_fill_53178 20 = .ok (.return_, 1) := by decide +kernel
theorem dJ7_copyOf_59c91_0 : decode cJ7_copyOf_59c91 0 = .ok (.iload_n 1, 1) := by decide +kernel
theorem dJ7_copyOf_59c91_1 : decode cJ7_copyOf_59c91 1 = .ok (.aload_n 0, 1) := by decide +kernel
theorem dJ7_copyOf_59c91_2 : decode cJ7_copyOf_59c91 2 = .ok (.arraylength, 1) := by decide +kernel
theorem dJ7_copyOf_59c91_3 : decode cJ7_copyOf_59c91 3 = .ok (.if_icmp .ne 11, 3) := by decide +kernel
theorem dJ7_copyOf_59c91_6 : decode cJ7_copyOf_59c91 6 = .ok (.aload_n 0, 1) := by decide +kernel
theorem dJ7_copyOf_59c91_7 : decode cJ7_copyOf_59c91 7 = .ok (.invokevirtual 316, 3) := by decide +kernel
theorem dJ7_copyOf_59c91_10 : decode cJ7_copyOf_59c91 10 = .ok (.checkcast 317, 3) := by decide +kernel
theorem dJ7_copyOf_59c91_13 : decode cJ7_copyOf_59c91 13 = .ok (.areturn, 1) := by decide +kernel
theorem dJ7_copyOf_59c91_14 : decode cJ7_copyOf_59c91 14 = .ok (.iload_n 1, 1) := by decide +kernel
theorem dJ7_copyOf_59c91_15 : decode cJ7_copyOf_59c91 15 = .ok (.newarray .int, 2) := by decide +kernel
theorem dJ7_copyOf_59c91_17 : decode cJ7_copyOf_59c91 17 = .ok (.astore_n 2, 1) := by decide +kernel
theorem dJ7_copyOf_59c91_18 : decode cJ7_copyOf_59c91 18 = .ok (.aload_n 0, 1) := by decide +kernel
theorem dJ7_copyOf_59c91_19 : decode cJ7_copyOf_59c91 19 = .ok (.iconst 0, 1) := by decide +kernel
theorem dJ7_copyOf_59c91_20 : decode cJ7_copyOf_59c91 20 = .ok (.aload_n 2, 1) := by decide +kernel
theorem dJ7_copyOf_59c91_21 : decode cJ7_copyOf_59c91 21 = .ok (.iconst 0, 1) := by decide +kernel
theorem dJ7_copyOf_59c91_22 : decode cJ7_copyOf_59c91 22 = .ok (.aload_n 0, 1) := by decide +kernel
theorem dJ7_copyOf_59c91_23 : decode cJ7_copyOf_59c91 23 = .ok (.arraylength, 1) := by decide +kernel
theorem dJ7_copyOf_59c91_24 : decode cJ7_copyOf_59c91 24 = .ok (.iload_n 1, 1) := by decide +kernel
theorem dJ7_copyOf_59c91_25 : decode cJ7_copyOf_59c91 25 = .ok (.invokestatic 304, 3) := by decide +kernel
theorem dJ7_copyOf_59c91_28 : decode cJ7_copyOf_59c91 28 = .ok (.invokestatic 150, 3) := by decide +kernel
theorem dJ7_copyOf_59c91_31 : decode cJ7_copyOf_59c91 31 = .ok (.aload_n 2, 1) := by decide +kernel
theorem dJ7_copyOf_59c91_32 : decode cJ7_copyOf_59c91 32 = .ok (.areturn, 1) := by decide +kernel
theorem dJ9_max_7cf53_0 : decode cJ9_max_7cf53 0 = .ok (.iload_n 0, 1) := by decide +kernel
theorem dJ9_max_7cf53_1 : decode cJ9_max_7cf53 1 = .ok (.iload_n 1, 1) := by decide +kernel
theorem dJ9_max_7cf53_2 : decode cJ9_max_7cf53 2 = .ok (.if_icmp .lt 7, 3) := by decide +kernel
theorem dJ9_max_7cf53_5 : decode cJ9_max_7cf53 5 = .ok (.iload_n 0, 1) := by decide +kernel
theorem dJ9_max_7cf53_6 : decode cJ9_max_7cf53 6 = .ok (.goto 4, 3) := by decide +kernel
theorem dJ9_max_7cf53_9 : decode cJ9_max_7cf53 9 = .ok (.iload_n 1, 1) := by decide +kernel
theorem dJ9_max_7cf53_10 : decode cJ9_max_7cf53 10 = .ok (.ireturn, 1) := by decide +kernel
theorem dJ9_min_7cf53_0 : decode cJ9_min_7cf53 0 = .ok (.iload_n 0, 1) := by decide +kernel
theorem dJ9_min_7cf53_1 : decode cJ9_min_7cf53 1 = .ok (.iload_n 1, 1) := by decide +kernel
theorem dJ9_min_7cf53_2 : decode cJ9_min_7cf53 2 = .ok (.if_icmp .gt 7, 3) := by decide +kernel
theorem dJ9_min_7cf53_5 : decode cJ9_min_7cf53 5 = .ok (.iload_n 0, 1) := by decide +kernel
theorem dJ9_min_7cf53_6 : decode cJ9_min_7cf53 6 = .ok (.goto 4, 3) := by decide +kernel
theorem dJ9_min_7cf53_9 : decode cJ9_min_7cf53 9 = .ok (.iload_n 1, 1) := by decide +kernel
theorem dJ9_min_7cf53_10 : decode cJ9_min_7cf53 10 = .ok (.ireturn, 1) := by decide +kernel
end
section
/-! ===== the heap as a function: an address holds a mark (whose it is) and a thing; one row an instruction ===== -/
abbrev ah_H : Type := Nat → Option (Nat × va_E)
def ah_up (h : ah_H) (a : Nat) (x : Nat × va_E) : ah_H := fun q => if q = a then some x else h q
theorem ah_up_s (h : ah_H) (a : Nat) (x : Nat × va_E) : ah_up h a x a = some x := if_pos rfl
theorem ah_up_n {h : ah_H} {a q : Nat} {x : Nat × va_E} (hq : q ≠ a) : ah_up h a x q = h q := if_neg hq
theorem ah_up2 (h : ah_H) (a : Nat) (x y : Nat × va_E) : ah_up (ah_up h a x) a y = ah_up h a y := by
  funext q
  by_cases hq : q = a
  · subst hq; rw [ah_up_s, ah_up_s]
  · rw [ah_up_n hq, ah_up_n hq, ah_up_n hq]
theorem ah_up_id {h : ah_H} {a : Nat} {x : Nat × va_E} (ha : h a = some x) : ah_up h a x = h := by
  funext q
  by_cases hq : q = a
  · subst hq; rw [ah_up_s, ha]
  · rw [ah_up_n hq]
/-- two marks, two addresses -/
theorem ah_ne {h : ah_H} {a b t u : Nat} {x y : va_E} (ha : h a = some (t, x)) (hb : h b = some (u, y)) (hne : t ≠ u) : a ≠ b := fun e => by
  subst e
  rw [ha] at hb
  exact hne (congrArg Prod.fst (Option.some.inj hb))
theorem ah_keep {h : ah_H} {a b t u : Nat} {x y : va_E} {z : Nat × va_E} (hb : h b = some (u, y)) (ha : h a = some (t, x)) (hne : u ≠ t) : ah_up h a z b = some (u, y) := by
  rw [ah_up_n (ah_ne hb ha hne)]; exact hb
theorem ah_new {h : ah_H} {a b u : Nat} {y : va_E} {z : Nat × va_E} (hb : h b = some (u, y)) (ha : h a = none) : ah_up h a z b = some (u, y) := by
  rw [ah_up_n (fun e => by subst e; rw [ha] at hb; cases hb)]; exact hb
/-- what all methods are told: the lowest address that is ours, the classes' numbers, the array classes' numbers, where the four tables lie -/
abbrev ah_G : Type := Nat × va_G × (Nat → ClassId) × (Nat → Nat)
abbrev ah_A (G : ah_G) : Nat → Prop := fun q => G.1 ≤ q
abbrev ah_tys (G : ah_G) : List (ClassId × FieldType) := [(G.2.2.1 0, .int), (G.2.2.1 1, .object "TextParts$Heap"), (G.2.2.1 2, .object "TextParts$Piece"), (G.2.2.1 3, .object "TextParts$Row"), (G.2.2.1 4, .long)]
def ah_R (G : ah_G) (h : ah_H) (H : Heap) : Prop := ∃ ws : va_W, va_P G.2.1 vwCl ws H ∧ va_D (ah_A G) ws ∧ ∀ (a t : Nat) (e : va_E), h a = some (t, e) → ∃ k : Nat, ws[k]? = some (a, e)
theorem ah_cset {h : ah_H} {ws : va_W} {a t k : Nat} {e0 e : va_E} (hc : ∀ (a t : Nat) (e : va_E), h a = some (t, e) → ∃ k : Nat, ws[k]? = some (a, e)) (hk : ws[k]? = some (a, e0)) :
    ∀ (b u : Nat) (y : va_E), ah_up h a (t, e) b = some (u, y) → ∃ j : Nat, (ws.set k (a, e))[j]? = some (b, y) := by
  intro b u y hb
  have hl := (List.getElem?_eq_some_iff.mp hk).1
  by_cases hq : b = a
  · subst hq
    rw [ah_up_s] at hb
    cases hb
    exact ⟨k, by rw [List.getElem?_set_self hl]⟩
  · rw [ah_up_n hq] at hb
    obtain ⟨j, hj⟩ := hc b u y hb
    refine ⟨j, ?_⟩
    rw [List.getElem?_set_ne (fun e => by subst e; rw [hk] at hj; cases hj; exact hq rfl)]
    exact hj
theorem ah_cpush {h : ah_H} {ws : va_W} {a t : Nat} {e : va_E} (hc : ∀ (a t : Nat) (e : va_E), h a = some (t, e) → ∃ k : Nat, ws[k]? = some (a, e)) :
    ∀ (b u : Nat) (y : va_E), ah_up h a (t, e) b = some (u, y) → ∃ j : Nat, (ws ++ [(a, e)])[j]? = some (b, y) := by
  intro b u y hb
  by_cases hq : b = a
  · subst hq
    rw [ah_up_s] at hb
    cases hb
    exact ⟨ws.length, by simp⟩
  · rw [ah_up_n hq] at hb
    obtain ⟨j, hj⟩ := hc b u y hb
    exact ⟨j, by rw [List.getElem?_append_left (List.getElem?_eq_some_iff.mp hj).1]; exact hj⟩
theorem ah_fresh {A : Nat → Prop} {h : ah_H} {ws : va_W} {q : Nat} {e : va_E} (hc : ∀ (a t : Nat) (e : va_E), h a = some (t, e) → ∃ k : Nat, ws[k]? = some (a, e)) (hD : va_D A (ws ++ [(q, e)])) : h q = none := by
  cases hq : h q with
  | none => rfl
  | some x =>
    obtain ⟨k, hk⟩ := hc q x.1 x.2 hq
    have hl := (List.getElem?_eq_some_iff.mp hk).1
    have h1 : (ws ++ [(q, e)])[k]? = some (q, x.2) := by rw [List.getElem?_append_left hl]; exact hk
    have h2 : (ws ++ [(q, e)])[ws.length]? = some (q, e) := by simp
    have := hD.1 _ _ _ _ h1 h2 rfl
    omega
/-- the four tables of the alphabet -/
abbrev ah_ou : List Int32 := [36, 64, 95, 163, 165, 232, 233, 167, 228, 246, 252]
abbrev ah_os : List Int32 := [2, 0, 17, 1, 3, 4, 5, 95, 123, 124, 126]
abbrev ah_eu : List Int32 := [94, 123, 125, 92, 91, 126, 93, 124, 8364]
abbrev ah_es : List Int32 := [20, 40, 41, 47, 60, 61, 62, 64, 101]
def ah_ZT (G : ah_G) (k : Nat) (n : String) (xs : List Int32) (U : State) : Prop := va_Z RX0 n "[I" (.ref (G.2.2.2 k)) (ah_A G) U U.heap ∧ va_T .int (G.2.2.2 k) xs.length (fun j => .int (xs.getD j 0)) (ah_A G) U U.heap
/-- what holds of every state in which a method of ours begins -/
def ah_E (G : ah_G) (U : State) : Prop :=
  G.1 ≤ U.heap.size ∧ va_K G.2.1 vwCl (ah_tys G) U ∧ (va_AO "TextParts$Heap" U ∧ va_AO "TextParts$Piece" U ∧ va_AO "TextParts$Row" U) ∧
  (va_Nw (.methodLinkNest RX8 9 yX7_init "TextParts") U ∧ va_Nw (.methodLinkNest RX8 18 yX3_init "TextParts") U ∧ va_Nw (.methodLinkNest RX8 34 yX2_init "TextParts") U ∧ va_Nw (.methodLinkNest RX2 11 yX4_init "TextParts") U ∧ va_Nw (.methodLinkNest RX3 52 yX8_bytesForSevens "TextParts") U ∧ va_Nw (.methodLinkNest RX4 59 yX8_bytesForSevens "TextParts") U) ∧
  ah_ZT G 0 "OTHER_UNITS" ah_ou U ∧ ah_ZT G 1 "OTHER_SEVENS" ah_os U ∧ ah_ZT G 2 "ESCAPED_UNITS" ah_eu U ∧ ah_ZT G 3 "ESCAPED_SEVENS" ah_es U
theorem ah_ZT.at {G : ah_G} {k : Nat} {n : String} {xs : List Int32} {s U : State} {locs : List Loc} (h : ah_ZT G k n xs s) (hS : va_S (ah_A G) s.heap U.heap locs) (hvm : s.vm.Alike U.vm) : ah_ZT G k n xs U :=
  ⟨va_Z.moved hvm (h.1.kept hS.2.1), va_T.moved hvm (h.2.kept hS.2.1)⟩
theorem ah_E.at {G : ah_G} {s U : State} {H : Heap} {locs : List Loc} (h : ah_E G s) (hS : va_S (ah_A G) s.heap H locs) (hU : U.heap = H) (hW : s.WarmedH U.vm) : ah_E G U := by
  subst hU
  obtain ⟨h1, h2, ⟨a1, a2, a3⟩, ⟨n1, n2, n3, n4, n5, n6⟩, z1, z2, z3, z4⟩ := h
  have hv := hW.alike
  exact ⟨Nat.le_trans h1 hS.1, va_K.moved hv h2, ⟨va_AO.moved hv a1, va_AO.moved hv a2, va_AO.moved hv a3⟩, ⟨va_Nw.warmM hW n1, va_Nw.warmM hW n2, va_Nw.warmM hW n3, va_Nw.warmM hW n4, va_Nw.warmM hW n5, va_Nw.warmM hW n6⟩, z1.at hS hv, z2.at hS hv, z3.at hS hv, z4.at hS hv⟩
theorem ah_E.calling {G : ah_G} {U : State} (g : JFrame) (mk : MethodId) (a : Array Value) (h : ah_E G U) : ah_E G (U.calling g mk a) := by
  obtain ⟨h1, h2, ⟨a1, a2, a3⟩, ⟨n1, n2, n3, n4, n5, n6⟩, z1, z2, z3, z4⟩ := h
  have hv : U.vm.Alike (U.calling g mk a).vm := Vm.Alike.refl U.vm
  have hS : va_S (ah_A G) U.heap (U.calling g mk a).heap [] := va_S.rf
  exact ⟨h1, va_K.moved hv h2, ⟨va_AO.moved hv a1, va_AO.moved hv a2, va_AO.moved hv a3⟩, ⟨va_Nw.same rfl rfl n1, va_Nw.same rfl rfl n2, va_Nw.same rfl rfl n3, va_Nw.same rfl rfl n4, va_Nw.same rfl rfl n5, va_Nw.same rfl rfl n6⟩, z1.at hS hv, z2.at hS hv, z3.at hS hv, z4.at hS hv⟩
theorem ah_E.A {G : ah_G} {s : State} (h : ah_E G s) : ∀ q : Nat, s.heap.size ≤ q → ah_A G q := fun _ hq => Nat.le_trans h.1 hq
/-- a contract's start and end -/
def ah_P (G : ah_G) (h : ah_H) (U : State) : Prop := ah_E G U ∧ ah_R G h U.heap
def ah_Pc (G : ah_G) (av : List Value) (h : ah_H) : Array Value → State → Prop := va_Pc av (ah_P G h)
def ah_B (G : ah_G) (h : ah_H) (t : State) : Prop := ah_R G h t.heap
abbrev ah_Qi (G : ah_G) (post : Int32 → ah_H → Prop) : Array Value → State → Outcome → State → Prop := va_Qi post (ah_B G) (ah_A G)
abbrev ah_Qv (G : ah_G) (post : ah_H → Prop) : Array Value → State → Outcome → State → Prop := va_Qv post (ah_B G) (ah_A G)
abbrev ah_Qq (G : ah_G) (post : Option Nat → ah_H → Prop) : Array Value → State → Outcome → State → Prop := va_Qq post (ah_B G) (ah_A G)
theorem ah_blind {G : ah_G} {av : List Value} {h : ah_H} : FrameBlind (ah_Pc G av h) := fun a U g mk q => ⟨q.1, ah_E.calling g mk a q.2.1, q.2.2⟩
theorem ah_preS {G : ah_G} {av : List Value} {h : ah_H} {s : State} {H : Heap} {locs : List Loc} (hE : ah_E G s) (hR : ah_R G h H) (hS : va_S (ah_A G) s.heap H locs) : PreS s H (ah_Pc G av h) av :=
  ⟨ah_blind, fun U hU hW => ⟨rfl, hE.at hS hU hW, by rw [hU]; exact hR⟩⟩
theorem ah_preV {G : ah_G} {As : List Value} {h : ah_H} {s : State} {H : Heap} {locs : List Loc} {b t ci : Nat} {fs : List Value} {q : vw_C} (hE : ah_E G s) (hR : ah_R G h H) (hS : va_S (ah_A G) s.heap H locs) (hb : h b = some (t, .inr (ci, fs))) (hc : vwCl[ci]? = some q) : PreV s H q.1 b (ah_Pc G (.ref b :: As) h) As := by
  refine ⟨ah_blind, ?_, fun U hU hW => ⟨rfl, hE.at hS hU hW, by rw [hU]; exact hR⟩⟩
  obtain ⟨ws, hP, hD, hcv⟩ := hR
  obtain ⟨k, hk⟩ := hcv b t _ hb
  exact va_recv hE.2.1 hP hc hk
section AHR
variable {p : Program} {l : Launch} {e : Env} {R : Room} {s : State} {m : MethodId} {args : Array Value} {below : List Frame} {meth : Method} {c : Code} {H : Heap} {locs : List Loc} {cells slots : Nat} {Q : State → Prop}
variable {cc : ByteArray} {pc : Nat} {ls : Array Slot} {rest st0 : List Value} {G : ah_G} {h : ah_H} {a t : Nat} {mc ms : Nat} {av : Array Value}
theorem ah_calli {post : Int32 → ah_H → Prop} (hr : va_Run p l e R s m args below meth c H locs cells slots mc ms (F0 m pc ls st0) rest (ah_Qi G post av) (ah_A G)) (hS : va_S (ah_A G) s.heap H locs)
    (kk : ∀ (r : Int32) (h1 : ah_H) (H1 : Heap) (locs1 : List Loc), post r h1 → ah_R G h1 H1 → va_S (ah_A G) s.heap H1 locs1 → W p l e R s m args below meth c H1 locs1 (cells + mc) (slots + ms) Q (F0 m (pc + 3) ls (.int r :: rest))) : W p l e R s m args below meth c H locs cells slots Q (F0 m pc ls st0) :=
  va_calli hr hS (fun _ _ z => z) (fun _ z => z) (fun r u t H1 locs1 ht _ hp hB _ _ hS1 => kk r u H1 locs1 hp (by subst ht; exact hB) hS1)
theorem ah_callv {post : ah_H → Prop} (hr : va_Run p l e R s m args below meth c H locs cells slots mc ms (F0 m pc ls st0) rest (ah_Qv G post av) (ah_A G)) (hS : va_S (ah_A G) s.heap H locs)
    (kk : ∀ (h1 : ah_H) (H1 : Heap) (locs1 : List Loc), post h1 → ah_R G h1 H1 → va_S (ah_A G) s.heap H1 locs1 → W p l e R s m args below meth c H1 locs1 (cells + mc) (slots + ms) Q (F0 m (pc + 3) ls rest)) : W p l e R s m args below meth c H locs cells slots Q (F0 m pc ls st0) :=
  va_callv hr hS (fun _ _ z => z) (fun _ z => z) (fun u t H1 locs1 ht _ hp hB _ _ hS1 => kk u H1 locs1 hp (by subst ht; exact hB) hS1)
theorem ah_callq {post : Option Nat → ah_H → Prop} (hr : va_Run p l e R s m args below meth c H locs cells slots mc ms (F0 m pc ls st0) rest (ah_Qq G post av) (ah_A G)) (hS : va_S (ah_A G) s.heap H locs)
    (kk : ∀ (r : Option Nat) (h1 : ah_H) (H1 : Heap) (locs1 : List Loc), post r h1 → ah_R G h1 H1 → va_S (ah_A G) s.heap H1 locs1 → W p l e R s m args below meth c H1 locs1 (cells + mc) (slots + ms) Q (F0 m (pc + 3) ls (va_rf r :: rest))) : W p l e R s m args below meth c H locs cells slots Q (F0 m pc ls st0) :=
  va_callq hr hS (fun _ _ z => z) (fun _ z => z) (fun r u t H1 locs1 ht _ hp hB _ _ hS1 => kk r u H1 locs1 hp (by subst ht; exact hB) hS1)
/-- a number on top, by another name -/
theorem ah_toi {x v : Int32} (hv : x = v) (k : W p l e R s m args below meth c H locs cells slots Q (F0 m pc ls (.int v :: rest))) : W p l e R s m args below meth c H locs cells slots Q (F0 m pc ls (.int x :: rest)) := by subst hv; exact k
theorem ah_get (hx : p.tables.exec = Jvm.exec) (hb : c.code = cc) (hE : ah_E G s) (hR : ah_R G h H) {own ref C : String} {T : u_T} {N ci index : Nat} {Ts : List Cond} (hts : ∀ w ∈ Ts, w.before args s = true) (hin : ∀ w ∈ u_ws C T N, w ∈ Ts) (hown : s.vm.findClass own = some m.cls) {fs : List Value} (ha : h a = some (t, .inr (ci, fs))) (hc : vwCl[ci]? = some (C, T, N)) (k : Nat) (hk : k < N) (hlink : (Cond.fieldLink own index ref (T k).2.1 (T k).2.2.1).before args s = true) (hsame : ∀ x, s.fieldFound? (T k).1 (T k).2.1 (T k).2.2.1 = some x → s.fieldFound? ref (T k).2.1 (T k).2.2.1 = some x) {v : Value} (hv : fs[k]? = some v) (hdg : decode cc pc = .ok (.getfield index, 3))
    (kk : W p l e R s m args below meth c H locs cells slots Q (F0 m (pc + 3) ls (v :: rest))) : W p l e R s m args below meth c H locs cells slots Q (F0 m pc ls (.ref a :: rest)) := by
  obtain ⟨ws, hP, hD, hcv⟩ := hR
  obtain ⟨q0, he⟩ := hcv a t _ ha
  exact va_get hx hb hts hin hown hE.2.1 hP q0 he hc k hk hlink hsame hv hdg kk
theorem ah_put (hx : p.tables.exec = Jvm.exec) (hb : c.code = cc) (hE : ah_E G s) (hR : ah_R G h H) (hS : va_S (ah_A G) s.heap H locs) {own ref C : String} {T : u_T} {N ci index : Nat} {Ts : List Cond} (hts : ∀ w ∈ Ts, w.before args s = true) (hin : ∀ w ∈ u_ws C T N, w ∈ Ts) (ty0 : Nat → FieldType) (hty : ∀ k, k < N → parseFieldDescriptor (T k).2.2.1 = some (ty0 k)) (hnm : ∀ a, a < N → ∀ b, b < N → a ≠ b → (T a).2.1 ≠ (T b).2.1) (hown : s.vm.findClass own = some m.cls) {fs : List Value} (ha : h a = some (t, .inr (ci, fs))) (hc : vwCl[ci]? = some (C, T, N)) (k : Nat) (hk : k < N) (hlink : (Cond.fieldLink own index ref (T k).2.1 (T k).2.2.1).before args s = true) (hsame : ∀ x, s.fieldFound? (T k).1 (T k).2.1 (T k).2.2.1 = some x → s.fieldFound? ref (T k).2.1 (T k).2.2.1 = some x) (hfin : (T k).2.2.2 = false) {ty : FieldType} {v : Value} (hd : parseFieldDescriptor (T k).2.2.1 = some ty) (hn : narrow ty v = v) (hfit : fits ty v = true) (hl : k < fs.length)
    (hdg : decode cc pc = .ok (.putfield index, 3)) (kk : ∀ (H1 : Heap) (locs1 : List Loc), ah_R G (ah_up h a (t, .inr (ci, fs.set k v))) H1 → va_S (ah_A G) s.heap H1 locs1 → W p l e R s m args below meth c H1 locs1 cells slots Q (F0 m (pc + 3) ls rest)) : W p l e R s m args below meth c H locs cells slots Q (F0 m pc ls (v :: .ref a :: rest)) := by
  obtain ⟨ws, hP, hD, hcv⟩ := hR
  obtain ⟨q0, he⟩ := hcv a t _ ha
  exact va_put hx hb hts hin ty0 hty hnm hown hE.2.1 hP hD hS q0 he hc k hk hlink hsame hfin hd hn hfit hl hdg (fun H1 locs1 hP1 hD1 hS1 => kk H1 locs1 ⟨_, hP1, hD1, ah_cset hcv he⟩ hS1)
theorem ah_putF (hx : p.tables.exec = Jvm.exec) (hb : c.code = cc) (hE : ah_E G s) (hR : ah_R G h H) (hS : va_S (ah_A G) s.heap H locs) {own ref C : String} {T : u_T} {N ci index : Nat} {Ts : List Cond} (hts : ∀ w ∈ Ts, w.before args s = true) (hin : ∀ w ∈ u_ws C T N, w ∈ Ts) (ty0 : Nat → FieldType) (hty : ∀ k, k < N → parseFieldDescriptor (T k).2.2.1 = some (ty0 k)) (hnm : ∀ a, a < N → ∀ b, b < N → a ≠ b → (T a).2.1 ≠ (T b).2.1) (hown : s.vm.findClass own = some m.cls) {fs : List Value} (ha : h a = some (t, .inr (ci, fs))) (hc : vwCl[ci]? = some (C, T, N)) (k : Nat) (hk : k < N) (hlink : (Cond.fieldLink own index ref (T k).2.1 (T k).2.2.1).before args s = true) (hsame : ∀ x, s.fieldFound? (T k).1 (T k).2.1 (T k).2.2.1 = some x → s.fieldFound? ref (T k).2.1 (T k).2.2.1 = some x) (hfin : (T k).2.2.2 = true) (hin2 : meth.name = "<init>") (hdecl : (T k).1 = own) {ty : FieldType} {v : Value} (hd : parseFieldDescriptor (T k).2.2.1 = some ty) (hn : narrow ty v = v) (hfit : fits ty v = true) (hl : k < fs.length)
    (hdg : decode cc pc = .ok (.putfield index, 3)) (kk : ∀ (H1 : Heap) (locs1 : List Loc), ah_R G (ah_up h a (t, .inr (ci, fs.set k v))) H1 → va_S (ah_A G) s.heap H1 locs1 → W p l e R s m args below meth c H1 locs1 cells slots Q (F0 m (pc + 3) ls rest)) : W p l e R s m args below meth c H locs cells slots Q (F0 m pc ls (v :: .ref a :: rest)) := by
  obtain ⟨ws, hP, hD, hcv⟩ := hR
  obtain ⟨q0, he⟩ := hcv a t _ ha
  exact va_putF hx hb hts hin ty0 hty hnm hown hE.2.1 hP hD hS q0 he hc k hk hlink hsame hfin hin2 hdecl hd hn hfit hl hdg (fun H1 locs1 hP1 hD1 hS1 => kk H1 locs1 ⟨_, hP1, hD1, ah_cset hcv he⟩ hS1)
/-- an array of ints, read, written, its length: indices as naturals -/
theorem ah_iald (hx : p.tables.exec = Jvm.exec) (hb : c.code = cc) (hE : ah_E G s) (hR : ah_R G h H) {n i : Nat} {f : Nat → Int32} (ha : h a = some (t, .inl (G.2.2.1 0, n, .inl f))) (hi : i < n) (hn : n < 2 ^ 31) (hdg : decode cc pc = .ok (.iaload, 1))
    (kk : W p l e R s m args below meth c H locs cells slots Q (F0 m (pc + 1) ls (.int (f i) :: rest))) : W p l e R s m args below meth c H locs cells slots Q (F0 m pc ls (.int (nI i) :: .ref a :: rest)) := by
  obtain ⟨ws, hP, hD, hcv⟩ := hR
  obtain ⟨q0, he⟩ := hcv a t _ ha
  exact va_iald hx hb hE.2.1 hP q0 0 he rfl (vp_in_nI hi hn) hdg (by rw [nI_clamp (Nat.lt_trans hi hn)]; exact kk)
theorem ah_iast (hx : p.tables.exec = Jvm.exec) (hb : c.code = cc) (hE : ah_E G s) (hR : ah_R G h H) (hS : va_S (ah_A G) s.heap H locs) {n i : Nat} {f : Nat → Int32} {x : Int32} (ha : h a = some (t, .inl (G.2.2.1 0, n, .inl f))) (hi : i < n) (hn : n < 2 ^ 31) (hdg : decode cc pc = .ok (.iastore, 1))
    (kk : ∀ (H1 : Heap) (locs1 : List Loc), ah_R G (ah_up h a (t, .inl (G.2.2.1 0, n, .inl (upd f i x)))) H1 → va_S (ah_A G) s.heap H1 locs1 → W p l e R s m args below meth c H1 locs1 cells slots Q (F0 m (pc + 1) ls rest)) : W p l e R s m args below meth c H locs cells slots Q (F0 m pc ls (.int x :: .int (nI i) :: .ref a :: rest)) := by
  obtain ⟨ws, hP, hD, hcv⟩ := hR
  obtain ⟨q0, he⟩ := hcv a t _ ha
  refine va_iast hx hb hE.2.1 hP hD hS q0 0 he rfl (vp_in_nI hi hn) hdg (fun H1 locs1 hP1 hD1 hS1 => ?_)
  rw [nI_clamp (Nat.lt_trans hi hn)] at hP1 hD1
  exact kk H1 locs1 ⟨_, hP1, hD1, ah_cset hcv he⟩ hS1
theorem ah_alen (hx : p.tables.exec = Jvm.exec) (hb : c.code = cc) (hE : ah_E G s) (hR : ah_R G h H) {n k : Nat} {x : Sum (Nat → Int32) (Sum (Nat → Int64) (Sum (Nat → UInt32) (Sum (Nat → UInt64) (Nat → Option Nat))))} {cA : ClassId} {ty : FieldType} (ha : h a = some (t, .inl (cA, n, x))) (hk : (ah_tys G)[k]? = some (cA, ty)) (hdg : decode cc pc = .ok (.arraylength, 1))
    (kk : W p l e R s m args below meth c H locs cells slots Q (F0 m (pc + 1) ls (.int (nI n) :: rest))) : W p l e R s m args below meth c H locs cells slots Q (F0 m pc ls (.ref a :: rest)) := by
  obtain ⟨ws, hP, hD, hcv⟩ := hR
  obtain ⟨q0, he⟩ := hcv a t _ ha
  exact va_alen hx hb hE.2.1 hP q0 k he hk rfl hdg kk
theorem ah_newi (hx : p.tables.exec = Jvm.exec) (hb : c.code = cc) (hE : ah_E G s) (hR : ah_R G h H) (hS : va_S (ah_A G) s.heap H locs) (harr : (Cond.arrayClass .int).before args s = true) (t : Nat) {n : Nat} (hn : n * 4 ≤ 536870912) (hcells : cells + 1 ≤ R.cells) (hslots : slots + n ≤ R.slots) (hdg : decode cc pc = .ok (.newarray .int, 2))
    (kk : ∀ (q : Nat) (H1 : Heap), h q = none → ah_R G (ah_up h q (t, .inl (G.2.2.1 0, n, .inl (fun _ => 0)))) H1 → va_S (ah_A G) s.heap H1 locs → W p l e R s m args below meth c H1 locs (cells + 1) (slots + n) Q (F0 m (pc + 2) ls (.ref q :: rest))) : W p l e R s m args below meth c H locs cells slots Q (F0 m pc ls (.int (nI n) :: rest)) := by
  obtain ⟨ws, hP, hD, hcv⟩ := hR
  have h31 : n < 2 ^ 31 := by omega
  have hn4 : n * componentBytes .int ≤ 536870912 := hn
  have ha0 : ∀ cA : ClassId, vp_cell cA (n, .inl (fun _ => 0)) = arrV cA n (fun _ => defaultValue .int) := fun cA => vp_cell_i cA n _
  refine va_newa (atype := .int) (ty := .int) (a0 := (n, .inl (fun _ => 0))) (N' := n) hx hb harr rfl hE.2.1 hP hD hS hE.A ha0 (nI_pos h31) (nI_clamp h31) hn4 hcells hslots hdg ?_
  intro q cA H1 hK1 hP1 hD1 hS1
  have k1 : s.vm.findClass ("[" ++ FieldType.int.toString) = some cA := (hK1.2 5 (cA, .int) rfl).2
  have k0 : s.vm.findClass ("[" ++ FieldType.int.toString) = some (G.2.2.1 0) := (hE.2.1.2 0 (G.2.2.1 0, .int) rfl).2
  have e1 : cA = G.2.2.1 0 := Option.some.inj (k1.symm.trans k0)
  subst e1
  exact kk q H1 (ah_fresh hcv hD1) ⟨_, hP1, hD1, ah_cpush hcv⟩ hS1
theorem ah_newo {c : Code} (hx : p.tables.exec = Jvm.exec) (hb : c.code = cc) (hE : ah_E G s) (hR : ah_R G h H) (hS : va_S (ah_A G) s.heap H locs) (t : Nat) {own C : String} {T : u_T} {N ci index : Nat} {Ts : List Cond} (hts : ∀ w ∈ Ts, w.before args s = true) (hin : ∀ w ∈ u_ws C T N, w ∈ Ts) (ty : Nat → FieldType) (hty : ∀ k, k < N → parseFieldDescriptor (T k).2.2.1 = some (ty k)) (hown : s.vm.findClass own = some m.cls) (hcl : (Cond.classLink own index C).before args s = true) (hinst : (Cond.instantiable C N).before args s = true) (hini : (Cond.initialized C).before args s = true)
    (hc : vwCl[ci]? = some (C, T, N)) {fs : List Value} (hfs : ∀ j, j < N → defaultValue (ty j) = vp_V fs j) (hcells : cells + 1 ≤ R.cells) (hslots : slots + N ≤ R.slots) (hdg : decode cc pc = .ok (.new index, 3))
    (kk : ∀ (q : Nat) (H1 : Heap), h q = none → ah_R G (ah_up h q (t, .inr (ci, fs))) H1 → va_S (ah_A G) s.heap H1 locs → W p l e R s m args below meth c H1 locs (cells + 1) (slots + N) Q (F0 m (pc + 3) ls (.ref q :: rest))) : W p l e R s m args below meth c H locs cells slots Q (F0 m pc ls rest) := by
  obtain ⟨ws, hP, hD, hcv⟩ := hR
  exact va_new hx hb hts hin ty hty hown hcl hinst hini hE.2.1 hP hD hS hE.A hc hfs hcells hslots hdg (fun q H1 hP1 hD1 hS1 => kk q H1 (ah_fresh hcv hD1) ⟨_, hP1, hD1, ah_cpush hcv⟩ hS1)
/-- arrays of references; k: which of the array types -/
theorem ah_newq (hx : p.tables.exec = Jvm.exec) (hb : c.code = cc) (hE : ah_E G s) (hR : ah_R G h H) (hS : va_S (ah_A G) s.heap H locs) (t k : Nat) {own C : String} {index : Nat} (hown : s.vm.findClass own = some m.cls) (hcl : (Cond.classLink own index C).before args s = true) (hover : va_AO C s) (hk : (ah_tys G)[k]? = some (G.2.2.1 k, .object C)) {n : Nat} (hn : n * 4 ≤ 536870912) (hcells : cells + 1 ≤ R.cells) (hslots : slots + n ≤ R.slots) (hdg : decode cc pc = .ok (.anewarray index, 3))
    (kk : ∀ (q : Nat) (H1 : Heap), h q = none → ah_R G (ah_up h q (t, .inl (G.2.2.1 k, n, .inr (.inr (.inr (.inr (fun _ => none))))))) H1 → va_S (ah_A G) s.heap H1 locs → W p l e R s m args below meth c H1 locs (cells + 1) (slots + n) Q (F0 m (pc + 3) ls (.ref q :: rest))) : W p l e R s m args below meth c H locs cells slots Q (F0 m pc ls (.int (nI n) :: rest)) := by
  obtain ⟨ws, hP, hD, hcv⟩ := hR
  have h31 : n < 2 ^ 31 := by omega
  refine va_newq (N' := n) hx hb hown hcl hover hE.2.1 hP hD hS hE.A (nI_pos h31) (nI_clamp h31) hn hcells hslots hdg (fun q cA H1 hK1 hP1 hD1 hS1 => ?_)
  have e1 : cA = G.2.2.1 k := by
    obtain ⟨k1, c1, a1, b1, d1, f1⟩ := (hK1.2 5 (cA, .object C) rfl).2
    obtain ⟨k2, c2, a2, b2, d2, f2⟩ := (hE.2.1.2 k (G.2.2.1 k, .object C) hk).2
    exact Option.some.inj (f1.symm.trans f2)
  subst e1
  exact kk q H1 (ah_fresh hcv hD1) ⟨_, hP1, hD1, ah_cpush hcv⟩ hS1
theorem ah_aald (hx : p.tables.exec = Jvm.exec) (hb : c.code = cc) (hE : ah_E G s) (hR : ah_R G h H) {n i k : Nat} {C : String} {f : Nat → Option Nat} (ha : h a = some (t, .inl (G.2.2.1 k, n, .inr (.inr (.inr (.inr f)))))) (hk : (ah_tys G)[k]? = some (G.2.2.1 k, .object C)) (hi : i < n) (hn : n < 2 ^ 31) (hdg : decode cc pc = .ok (.aaload, 1))
    (kk : W p l e R s m args below meth c H locs cells slots Q (F0 m (pc + 1) ls (va_rf (f i) :: rest))) : W p l e R s m args below meth c H locs cells slots Q (F0 m pc ls (.int (nI i) :: .ref a :: rest)) := by
  obtain ⟨ws, hP, hD, hcv⟩ := hR
  obtain ⟨q0, he⟩ := hcv a t _ ha
  exact va_aldq hx hb hE.2.1 hP q0 k he hk (vp_in_nI hi hn) hdg (by rw [nI_clamp (Nat.lt_trans hi hn)]; exact kk)
theorem ah_aast (hx : p.tables.exec = Jvm.exec) (hb : c.code = cc) (hE : ah_E G s) (hR : ah_R G h H) (hS : va_S (ah_A G) s.heap H locs) {n i k v tv ci : Nat} {r : vw_C} {vs : List Value} {f : Nat → Option Nat} (ha : h a = some (t, .inl (G.2.2.1 k, n, .inr (.inr (.inr (.inr f)))))) (hk : (ah_tys G)[k]? = some (G.2.2.1 k, .object r.1)) (hv : h v = some (tv, .inr (ci, vs))) (hc : vwCl[ci]? = some r) (hi : i < n) (hn : n < 2 ^ 31) (hdg : decode cc pc = .ok (.aastore, 1))
    (kk : ∀ (H1 : Heap) (locs1 : List Loc), ah_R G (ah_up h a (t, .inl (G.2.2.1 k, n, .inr (.inr (.inr (.inr (va_up f i (some v)))))))) H1 → va_S (ah_A G) s.heap H1 locs1 → W p l e R s m args below meth c H1 locs1 cells slots Q (F0 m (pc + 1) ls rest)) : W p l e R s m args below meth c H locs cells slots Q (F0 m pc ls (.ref v :: .int (nI i) :: .ref a :: rest)) := by
  obtain ⟨ws, hP, hD, hcv⟩ := hR
  obtain ⟨q0, he⟩ := hcv a t _ ha
  obtain ⟨q1, he1⟩ := hcv v tv _ hv
  refine va_astq hx hb hE.2.1 hP hD hS q0 k q1 ci he hk he1 hc (vp_in_nI hi hn) hdg (fun H1 locs1 hP1 hD1 hS1 => ?_)
  rw [nI_clamp (Nat.lt_trans hi hn)] at hP1 hD1
  exact kk H1 locs1 ⟨_, hP1, hD1, ah_cset hcv he⟩ hS1
theorem ah_aastN (hx : p.tables.exec = Jvm.exec) (hb : c.code = cc) (hE : ah_E G s) (hR : ah_R G h H) (hS : va_S (ah_A G) s.heap H locs) {n i k : Nat} {C : String} {f : Nat → Option Nat} (ha : h a = some (t, .inl (G.2.2.1 k, n, .inr (.inr (.inr (.inr f)))))) (hk : (ah_tys G)[k]? = some (G.2.2.1 k, .object C)) (hi : i < n) (hn : n < 2 ^ 31) (hdg : decode cc pc = .ok (.aastore, 1))
    (kk : ∀ (H1 : Heap) (locs1 : List Loc), ah_R G (ah_up h a (t, .inl (G.2.2.1 k, n, .inr (.inr (.inr (.inr (va_up f i none))))))) H1 → va_S (ah_A G) s.heap H1 locs1 → W p l e R s m args below meth c H1 locs1 cells slots Q (F0 m (pc + 1) ls rest)) : W p l e R s m args below meth c H locs cells slots Q (F0 m pc ls (.null :: .int (nI i) :: .ref a :: rest)) := by
  obtain ⟨ws, hP, hD, hcv⟩ := hR
  obtain ⟨q0, he⟩ := hcv a t _ ha
  refine va_astqN hx hb hE.2.1 hP hD hS q0 k he hk (vp_in_nI hi hn) hdg (fun H1 locs1 hP1 hD1 hS1 => ?_)
  rw [nI_clamp (Nat.lt_trans hi hn)] at hP1 hD1
  exact kk H1 locs1 ⟨_, hP1, hD1, ah_cset hcv he⟩ hS1
/-- the ends -/
theorem ah_iret {post : Int32 → ah_H → Prop} {v : Int32} (hx : p.tables.exec = Jvm.exec) (hb : c.code = cc) (hr : meth.sig.returnType = some .int) (hlocks : meth.locks = false) (hR : ah_R G h H) (hS : va_S (ah_A G) s.heap H locs) (hdg : decode cc pc = .ok (.ireturn, 1)) (hp : post v h) : W p l e R s m args below meth c H locs cells slots (MQ below (ah_Qi G post) args s cells slots (ah_A G)) (F0 m pc ls [.int v]) :=
  W.iret hx hb hr (fun t ht hW => ⟨⟨v, h, rfl, hp, by show ah_R G h t.heap; rw [ht]; exact hR⟩, hS.F ht⟩) hS.2.2 hdg hlocks
theorem ah_zret {post : Int32 → ah_H → Prop} {v : Int32} (hx : p.tables.exec = Jvm.exec) (hb : c.code = cc) (hr : meth.sig.returnType = some .boolean) (hlocks : meth.locks = false) (hR : ah_R G h H) (hS : va_S (ah_A G) s.heap H locs) (hdg : decode cc pc = .ok (.ireturn, 1)) (hv : narrow .boolean (.int v) = .int v) (hp : post v h) : W p l e R s m args below meth c H locs cells slots (MQ below (ah_Qi G post) args s cells slots (ah_A G)) (F0 m pc ls [.int v]) :=
  W.zret hx hb hr hv (fun t ht hW => ⟨⟨v, h, rfl, hp, by show ah_R G h t.heap; rw [ht]; exact hR⟩, hS.F ht⟩) hS.2.2 hdg hlocks
theorem ah_vret {post : ah_H → Prop} (hx : p.tables.exec = Jvm.exec) (hb : c.code = cc) (hr : meth.sig.returnType = none) (hlocks : meth.locks = false) (hR : ah_R G h H) (hS : va_S (ah_A G) s.heap H locs) (hdg : decode cc pc = .ok (.return_, 1)) (hp : post h) : W p l e R s m args below meth c H locs cells slots (MQ below (ah_Qv G post) args s cells slots (ah_A G)) (F0 m pc ls []) :=
  W.vret hx hb hr (fun t ht hW => ⟨⟨h, rfl, hp, by show ah_R G h t.heap; rw [ht]; exact hR⟩, hS.F ht⟩) hS.2.2 hdg hlocks
theorem ah_aret {post : Option Nat → ah_H → Prop} {r : Option Nat} {v : Value} {rt : FieldType} (hx : p.tables.exec = Jvm.exec) (hb : c.code = cc) (hr : meth.sig.returnType = some rt) (hrt : (∃ n, rt = .object n) ∨ ∃ t, rt = .array t) (hlocks : meth.locks = false) (hR : ah_R G h H) (hS : va_S (ah_A G) s.heap H locs) (hdg : decode cc pc = .ok (.areturn, 1)) (hv : v = va_rf r) (hp : post r h) : W p l e R s m args below meth c H locs cells slots (MQ below (ah_Qq G post) args s cells slots (ah_A G)) (F0 m pc ls [v]) := by
  subst hv
  exact W.aret hx hb hr hrt (va_rf_or r) (fun t ht hW => ⟨⟨r, h, rfl, hp, by show ah_R G h t.heap; rw [ht]; exact hR⟩, hS.F ht⟩) hS.2.2 hdg hlocks
end AHR
/-- the head of any method that throws nothing -/
theorem ah_ofW {l : Launch} {G : ah_G} {h : ah_H} {av : List Value} {y : MethodName} {ws ws' : List Cond} {rm : Room} {Qc : Array Value → State → Outcome → State → Prop} {mc ms : Nat} {cc : ByteArray} {maxL : Nat} {ret : Option FieldType}
    (hy : plainName y.cls = true) (hw : ws = Cond.code y cc maxL ret :: ws') (hlen : (lg_sl av).length ≤ maxL)
    (body : ∀ (p : Program) (e : Env) (s : State) (m : MethodId) (below : List Frame) (meth : Method) (c : Code) (ls : Array Slot), p.tables.exec = Jvm.exec → c.code = cc → meth.sig.returnType = ret → c.maxLocals = maxL → s.vm.findClass y.cls = some m.cls → meth.locks = false → meth.name = y.name → (∀ w ∈ ws, w.before av.toArray s = true) → ah_E G s → ah_R G h s.heap → va_S (ah_A G) s.heap s.heap [] → lv_has ls maxL (lv_args 0 av) →
      W p l e rm s m av.toArray below meth c s.heap [] 0 0 (MQ below Qc av.toArray s mc ms (ah_A G)) (F0 m 0 ls [])) : Met l y ws rm (ah_Pc G av h) Qc mc ms (ah_A G) := by
  refine Met.ofW (cc := cc) (maxL := maxL) (ret := ret) hy hw ?_
  intro p e s m args below meth c s₁ B hml hv
  obtain ⟨rfl, hE, hR⟩ := hv
  have hl := lv_entry av (n := maxL) hlen
  rw [lg_entry_eq]
  generalize (lg_sl av ++ List.replicate (maxL - (lg_sl av).length) Slot.unset).toArray = ls at hl ⊢
  exact body p e s m below meth c ls B.exec B.bytes B.returns hml (findClass_of_methodNamed B.named) B.notSynchronized (name_of_methodNamed B.named B.method).1 (atoms_spec (ws := ws) B.pre) hE hR va_S.rf hl
end
section
/-! ===== arrays of naturals, numbers against 0, bits of naturals ===== -/
def nA (g : Nat → Nat) : Nat → Int32 := fun j => nI (g j)
def gU (g : Nat → Nat) (i v : Nat) : Nat → Nat := fun j => if j = i then v else g j
theorem gU_s (g : Nat → Nat) (i v : Nat) : gU g i v i = v := if_pos rfl
theorem gU_n {g : Nat → Nat} {i v j : Nat} (h : j ≠ i) : gU g i v j = g j := if_neg h
theorem nA_upd (g : Nat → Nat) (i v : Nat) : upd (nA g) i (nI v) = nA (gU g i v) := by
  funext j
  by_cases hj : j = i
  · subst hj; simp [upd, nA, gU]
  · simp [upd, nA, gU, hj]
theorem nA_0 : (fun _ => 0 : Nat → Int32) = nA (fun _ => 0) := by
  funext j; exact nI_0.symm
def gZ (g : Nat → Nat) (n v : Nat) : Nat → Nat := fun j => if j < n then v else g j
theorem gZ_0 (g : Nat → Nat) (v : Nat) : gZ g 0 v = g := by
  funext j; simp [gZ]
theorem gZ_s (g : Nat → Nat) (n v : Nat) : gU (gZ g n v) n v = gZ g (n + 1) v := by
  funext j
  by_cases hj : j = n
  · subst hj; simp [gU, gZ]
  · simp only [gU, gZ, if_neg hj]
    by_cases h2 : j < n
    · rw [if_pos h2, if_pos (by omega)]
    · rw [if_neg h2, if_neg (by omega)]
theorem zi_gt {a : Nat} (h : a < 2 ^ 31) : 0 < nI a ↔ 0 < a := by
  have := nI_ltI (a := 0) (b := a) (by omega) h
  rwa [nI_0] at this
theorem zi_le {a : Nat} (h : a < 2 ^ 31) : nI a ≤ 0 ↔ a ≤ 0 := by
  have := nI_leI (a := a) (b := 0) h (by omega)
  rwa [nI_0] at this
theorem zi_eq {a : Nat} (h : a < 2 ^ 31) : nI a = 0 ↔ a = 0 := by
  have := nI_eq (a := a) (b := 0) h (by omega)
  rwa [nI_0] at this
theorem zi_ne {a : Nat} (h : a < 2 ^ 31) : ¬ nI a = -1 := by
  intro e
  have h1 := congrArg Int32.toInt e
  rw [nI_toInt h] at h1
  have h2 : (-1 : Int32).toInt = -1 := by decide +kernel
  omega
/-- an index that was looked at -/
theorem ix_of {x : Int32} {n : Nat} (h0 : ¬ x < 0) (h1 : ¬ nI n ≤ x) (hn : n < 2 ^ 31) : ∃ j : Nat, j < n ∧ x = nI j := by
  rcases pk_ix x hn with q | q | q
  · exact absurd q h0
  · exact absurd q h1
  · exact q
theorem ny_or (a b : Nat) : nI a ||| nI b = nI (a ||| b) := by
  apply Int32.toBitVec_inj.1
  show BitVec.ofNat 32 a ||| BitVec.ofNat 32 b = BitVec.ofNat 32 (a ||| b)
  apply BitVec.eq_of_getLsbD_eq
  intro i hi
  simp [hi]
theorem ny_and (a b : Nat) : nI a &&& nI b = nI (a &&& b) := by
  apply Int32.toBitVec_inj.1
  show BitVec.ofNat 32 a &&& BitVec.ofNat 32 b = BitVec.ofNat 32 (a &&& b)
  apply BitVec.eq_of_getLsbD_eq
  intro i hi
  simp [hi]
theorem ny_sm : ∀ k, k < 32 → ((nI k &&& 31).toBitVec.smod 32).toNat = k := by decide +kernel
theorem ny_shl {a k : Nat} (hk : k < 32) (h : a * 2 ^ k < 2 ^ 32) : nI a <<< (nI k &&& 31) = nI (a * 2 ^ k) := pk_shlN _ k (ny_sm k hk) h
theorem ny_shr {a k : Nat} (hk : k < 32) (h : a < 2 ^ 31) : nI a >>> (nI k &&& 31) = nI (a / 2 ^ k) := pk_shrN h _ k (ny_sm k hk)
theorem ny_a127 (a : Nat) : nI a &&& nI 127 = nI (a % 128) := by
  rw [ny_and, show (127 : Nat) = 2 ^ 7 - 1 from rfl, Nat.and_two_pow_sub_one_eq_mod]
theorem ny_a255 (a : Nat) : nI a &&& nI 255 = nI (a % 256) := by
  rw [ny_and, show (255 : Nat) = 2 ^ 8 - 1 from rfl, Nat.and_two_pow_sub_one_eq_mod]
theorem ny_a1 (a : Nat) : nI a &&& nI 1 = nI (a % 2) := by
  rw [ny_and, show (1 : Nat) = 2 ^ 1 - 1 from rfl, Nat.and_two_pow_sub_one_eq_mod]
/-- a byte over a byte: side by side -/
theorem ny_or8 {a : Nat} (b : Nat) (ha : a < 256) : nI a ||| nI (b * 2 ^ 8) = nI (a + 256 * b) := by
  rw [ny_or]
  congr 1
  rw [Nat.or_comm, show b * 2 ^ 8 = 2 ^ 8 * b from Nat.mul_comm _ _, ← Nat.two_pow_add_eq_or_of_lt (i := 8) ha]
  omega
/-! ===== a row's bytes, read at any int ===== -/
def rwA (g : Nat → Nat) (z : Nat) (i : Int32) : Int32 := if i < 0 then -1 else if nI z ≤ i then -1 else nI (g i.toNatClampNeg)
theorem rwA_neg {g : Nat → Nat} {z : Nat} {i : Int32} (h : i < 0) : rwA g z i = -1 := if_pos h
theorem rwA_big {g : Nat → Nat} {z : Nat} {i : Int32} (h : nI z ≤ i) : rwA g z i = -1 := by
  unfold rwA
  by_cases h0 : i < 0
  · rw [if_pos h0]
  · rw [if_neg h0, if_pos h]
theorem rwA_in {g : Nat → Nat} {z i : Nat} (h : i < z) (hz : z < 2 ^ 31) : rwA g z (nI i) = nI (g i) := by
  unfold rwA; rw [if_neg (nI_pos (by omega)), if_neg (nI_ge h hz), nI_clamp (by omega)]
theorem rwA_out {g : Nat → Nat} {z i : Nat} (h : z ≤ i) (hi : i < 2 ^ 31) : rwA g z (nI i) = -1 := rwA_big (nI_le h hi)
/-- the byte at k, 0 behind the end -/
def bz (g : Nat → Nat) (z k : Nat) : Nat := if k < z then g k else 0
theorem bz_lt {g : Nat → Nat} {z k : Nat} (hg : ∀ j, g j < 256) : bz g z k < 256 := by
  unfold bz; split
  · exact hg k
  · omega
theorem bz_max {g : Nat → Nat} {z n k : Nat} (hg : ∀ j, g j < 256) (hz : z ≤ n) (hn : n < 2 ^ 31) (hk : k < 2 ^ 31) : (if nI 0 < rwA g z (nI k) then rwA g z (nI k) else nI 0) = nI (bz g z k) := by
  unfold bz
  have h9 := hg k
  by_cases h : k < z
  · rw [rwA_in h (by omega), if_pos h]
    by_cases h0 : 0 < g k
    · rw [if_pos ((nI_ltI (by omega) (by omega)).mpr h0)]
    · rw [if_neg (fun q => h0 ((nI_ltI (by omega) (by omega)).mp q)), show g k = 0 by omega]
  · rw [rwA_out (by omega) hk, if_neg h, if_neg (by decide +kernel)]
/-- seven number k of the contents, as the row reads it -/
def svn (g : Nat → Nat) (z k : Nat) : Nat := (bz g z (2 + 7 * k / 8) + 256 * bz g z (2 + 7 * k / 8 + 1)) / 2 ^ (7 * k % 8) % 128
/-- a byte laid at k, if it is within -/
def rwS (g : Nat → Nat) (z k v : Nat) : Nat → Nat := if k < z then gU g k v else g
/-- seven s added at place k -/
def rwAdd (g : Nat → Nat) (z k s : Nat) : Nat → Nat :=
  rwS (rwS g z (2 + 7 * k / 8) (bz g z (2 + 7 * k / 8) ||| s * 2 ^ (7 * k % 8) % 256)) z (2 + 7 * k / 8 + 1) (bz (rwS g z (2 + 7 * k / 8) (bz g z (2 + 7 * k / 8) ||| s * 2 ^ (7 * k % 8) % 256)) z (2 + 7 * k / 8 + 1) ||| s * 2 ^ (7 * k % 8) / 2 ^ 8)
theorem rwS_lt {g : Nat → Nat} {z k v : Nat} (hg : ∀ j, g j < 256) (hv : v < 256) : ∀ j, rwS g z k v j < 256 := by
  intro j
  unfold rwS
  split
  · unfold gU; split
    · exact hv
    · exact hg j
  · exact hg j
theorem or_lt8 {a b : Nat} (ha : a < 256) (hb : b < 256) : a ||| b < 256 := Nat.or_lt_two_pow (n := 8) ha hb
theorem mm_min {k n : Nat} (h1 : k < 2 ^ 31) (h2 : n < 2 ^ 31) (h : k ≤ n) : (if nI n < nI k then nI n else nI k) = nI k := if_neg (fun q => by have := (nI_ltI h2 h1).mp q; omega)
theorem mm_max {k : Nat} (h1 : k < 2 ^ 31) : (if nI 0 < nI k then nI k else nI 0) = nI k := by
  by_cases h : 0 < k
  · rw [if_pos ((nI_ltI (by omega) h1).mpr h)]
  · rw [if_neg (fun q => h ((nI_ltI (by omega) h1).mp q)), show k = 0 by omega]
end
section
/-! ===== java.util.Arrays.fill, copyOf; TextParts$Row ===== -/
set_option maxHeartbeats 4000000 in
set_option maxRecDepth 100000 in
theorem c_fill (l : Launch) (G : ah_G) (h : ah_H) (a t n v : Nat) (g : Nat → Nat) (fa : h a = some (t, .inl (G.2.2.1 0, n, .inl (nA g)))) (hn : n < 2 ^ 31) : Met l yJ7_fill_53178 wsJ7_fill_53178 ({ frames := 0, cells := 0, slots := 0, locals := 0 }) (ah_Pc G [.ref a, .int (nI v)] h) (ah_Qv G (fun h' => h' = ah_up h a (t, .inl (G.2.2.1 0, n, .inl (nA (gZ g n v)))))) 0 0 (ah_A G) := by
  refine ah_ofW (cc := cJ7_fill_53178) (maxL := 4) (ret := none) (by decide) rfl (Nat.le_of_ble_eq_true rfl) ?_
  intro p e s m below meth c ls hx hb hr hml hown hlocks hname hts hE hR hS hl
  have hown : s.vm.findClass RJ7 = some m.cls := hown
  have hl : lv_has ls 4 [(0, .ref a), (1, .int (nI v))] := hl
  refine lv_iconst (v := nI 0) hx hb dJ7_fill_53178_0 (by decide) ?_
  refine lv_istore_n (lv' := [(2, .int (nI 0)), (0, .ref a), (1, .int (nI v))]) hx hb dJ7_fill_53178_1 rfl hl (by decide) rfl (fun ls hl => ?_)
  refine lv_aload_n hx hb dJ7_fill_53178_2 rfl (lv_at hl 1 rfl) ?_
  refine ah_alen hx hb hE hR fa (show (ah_tys G)[0]? = some _ from rfl) dJ7_fill_53178_3 ?_
  have f_1 : h a = some (t, .inl (G.2.2.1 0, n, .inl (nA (gZ g 0 v)))) := by rw [gZ_0]; exact fa
  refine lv_istore_n (lv' := [(3, .int (nI n)), (2, .int (nI 0)), (0, .ref a), (1, .int (nI v))]) hx hb dJ7_fill_53178_4 rfl hl (by decide) rfl (fun ls hl => ?_)
  have L5 : ∀ (N5 : Nat) (i : Nat) (h1 : ah_H) (H : Heap) (locs : List Loc) (ls : Array Slot), n - i < N5 → (i ≤ n) → (h1 = ah_up h a (t, .inl (G.2.2.1 0, n, .inl (nA (gZ g i v))))) → (h1 a = some (t, .inl (G.2.2.1 0, n, .inl (nA (gZ g i v))))) → ah_R G h1 H → va_S (ah_A G) s.heap H locs → lv_has ls 4 [(3, .int (nI n)), (2, .int (nI i)), (0, .ref a), (1, .int (nI v))] → W p l e ({ frames := 0, cells := 0, slots := 0, locals := 0 }) s m ([.ref a, .int (nI v)] : List Value).toArray below meth c H locs 0 0 (MQ below (ah_Qv G (fun h' => h' = ah_up h a (t, .inl (G.2.2.1 0, n, .inl (nA (gZ g n v)))))) ([.ref a, .int (nI v)] : List Value).toArray s 0 0 (ah_A G)) (F0 m 5 ls []) := by
    intro N5
    induction N5 with
    | zero => intro i h1 H locs ls hN; exact absurd hN (Nat.not_lt_zero _)
    | succ N5 ih5 =>
      intro i h1 H locs ls hN5 hi eh fa1 hR hS hl
      refine lv_iload_n hx hb dJ7_fill_53178_5 rfl (lv_at hl 1 rfl) ?_
      refine lv_iload_n hx hb dJ7_fill_53178_6 rfl (lv_at hl 0 rfl) ?_
      refine lv_icmp_ge (tgt := 20) hx hb dJ7_fill_53178_7 (by decide) (fun c_2 => ?_) (fun c_2 => ?_)
      · skip
        have c_2 : n ≤ i := (nI_leI (by omega) (by omega)).mp c_2
        refine ah_vret hx hb hr hlocks hR hS dJ7_fill_53178_20 ?_
        rw [eh, show i = n by omega]
      · skip
        have c_2 : ¬ (n ≤ i) := fun z9 => c_2 ((nI_leI (by omega) (by omega)).mpr z9)
        refine lv_aload_n hx hb dJ7_fill_53178_10 rfl (lv_at hl 2 rfl) ?_
        refine lv_iload_n hx hb dJ7_fill_53178_11 rfl (lv_at hl 1 rfl) ?_
        refine lv_iload_n hx hb dJ7_fill_53178_12 rfl (lv_at hl 3 rfl) ?_
        refine ah_iast (i := i) hx hb hE hR hS fa1 (by omega) (by omega) dJ7_fill_53178_13 (fun H locs hR hS => ?_)
        rw [nA_upd] at hR
        obtain ⟨h_3, e_4⟩ : ∃ zz9, zz9 = ah_up h1 a (t, .inl (G.2.2.1 0, n, .inl (nA (gU (gZ g i v) i v)))) := ⟨_, rfl⟩
        have hR : ah_R G h_3 H := by rw [e_4]; exact hR
        have f_5 : h_3 a = some (t, .inl (G.2.2.1 0, n, .inl (nA (gU (gZ g i v) i v)))) := by rw [e_4]; exact ah_up_s _ _ _
        have f_6 : h_3 a = some (t, .inl (G.2.2.1 0, n, .inl (nA (gZ g (i + 1) v)))) := by rw [← gZ_s]; exact f_5
        refine lv_iinc (v := nI (i + 1)) (lv' := [(2, .int (nI (i + 1))), (3, .int (nI n)), (0, .ref a), (1, .int (nI v))]) hx hb dJ7_fill_53178_14 hl (k := 1) rfl (show nI i + Int32.ofInt 1 = nI (i + 1) from nI_add _ 1) (by decide) rfl (fun ls hl => ?_)
        refine lv_goto (tgt := 5) hx hb dJ7_fill_53178_17 (by decide) ?_
        exact ih5  (i + 1) h_3 _ _ ls (by omega) (by omega) (by rw [e_4, eh, ah_up2, gZ_s]) f_6 hR hS (lv_sub hl [1, 0, 2, 3] rfl)
  exact L5 ((n - 0) + 1) 0 h _ _ ls (by omega) (by omega) (by rw [gZ_0, ah_up_id fa]) f_1 hR hS (lv_sub hl [0, 1, 2, 3] rfl)

set_option maxHeartbeats 4000000 in
set_option maxRecDepth 100000 in
theorem c_Row_byteAt (l : Launch) (G : ah_G) (h : ah_H) (r b tr tb n z : Nat) (g : Nat → Nat) (fr : h r = some (tr, .inr (5, [.ref b, .int (nI z)]))) (fb : h b = some (tb, .inl (G.2.2.1 0, n, .inl (nA g)))) (hne : tr ≠ tb) (hz : z ≤ n) (hn : n < 2 ^ 31) (i : Int32) : Met l yX6_byteAt wsX6_byteAt ({ frames := 0, cells := 0, slots := 0, locals := 0 }) (ah_Pc G [.ref r, .int i] h) (ah_Qi G (fun v h' => v = rwA g z i ∧ h' = h)) 0 0 (ah_A G) := by
  refine ah_ofW (cc := cX6_byteAt) (maxL := 2) (ret := (some .int)) (by decide) rfl (Nat.le_of_ble_eq_true rfl) ?_
  intro p e s m below meth c ls hx hb hr hml hown hlocks hname hts hE hR hS hl
  have hown : s.vm.findClass RX6 = some m.cls := hown
  have hl : lv_has ls 2 [(0, .ref r), (1, .int i)] := hl
  have k30 := hts (.fieldLink RX6 30 "TextParts$Row" "size" "I") (by decide +kernel)
  have hinX6 : ∀ w ∈ wsX60, w ∈ wsX6_byteAt := by decide +kernel
  have k9 := hts (.fieldLink RX6 9 "TextParts$Row" "bytes" "[I") (by decide +kernel)
  refine lv_iload_n hx hb dX6_byteAt_0 rfl (lv_at hl 1 rfl) ?_
  refine lv_if_lt (tgt := 21) hx hb dX6_byteAt_1 (by decide) (fun c_1 => ?_) (fun c_1 => ?_)
  · skip
    refine lv_iconst (v := (-1)) hx hb dX6_byteAt_21 (by decide) ?_
    refine ah_iret (v := (-1)) hx hb hr hlocks hR hS dX6_byteAt_22 ?_
    exact ⟨(rwA_neg c_1).symm, rfl⟩
  · skip
    refine lv_iload_n hx hb dX6_byteAt_4 rfl (lv_at hl 1 rfl) ?_
    refine lv_aload_n hx hb dX6_byteAt_5 rfl (lv_at hl 0 rfl) ?_
    refine ah_get (ci := 5) (v := .int (nI z)) (C := RX6) (T := TX6) (N := 2) hx hb hE hR hts hinX6 hown fr rfl 1 (by decide) k30 (fun _ h9 => h9) rfl dX6_byteAt_6 ?_
    refine lv_icmp_ge (tgt := 21) hx hb dX6_byteAt_9 (by decide) (fun c_2 => ?_) (fun c_2 => ?_)
    · skip
      refine lv_iconst (v := (-1)) hx hb dX6_byteAt_21 (by decide) ?_
      refine ah_iret (v := (-1)) hx hb hr hlocks hR hS dX6_byteAt_22 ?_
      exact ⟨(rwA_big c_2).symm, rfl⟩
    · skip
      obtain ⟨j, hj, rfl⟩ := ix_of c_1 c_2 (show z < 2 ^ 31 by omega)
      refine lv_aload_n hx hb dX6_byteAt_12 rfl (lv_at hl 0 rfl) ?_
      refine ah_get (ci := 5) (v := .ref b) (C := RX6) (T := TX6) (N := 2) hx hb hE hR hts hinX6 hown fr rfl 0 (by decide) k9 (fun _ h9 => h9) rfl dX6_byteAt_13 ?_
      refine lv_iload_n hx hb dX6_byteAt_16 rfl (lv_at hl 1 rfl) ?_
      refine ah_iald (i := j) hx hb hE hR fb (by omega) (by omega) dX6_byteAt_17 ?_
      refine ah_toi (v := nI (g j)) rfl ?_
      refine lv_goto (tgt := 22) hx hb dX6_byteAt_18 (by decide) ?_
      refine ah_iret (v := nI (g j)) hx hb hr hlocks hR hS dX6_byteAt_22 ?_
      exact ⟨(rwA_in hj (by omega)).symm, rfl⟩

set_option maxHeartbeats 4000000 in
set_option maxRecDepth 100000 in
theorem c_Row_setByte (l : Launch) (G : ah_G) (h : ah_H) (r b tr tb n z : Nat) (g : Nat → Nat) (fr : h r = some (tr, .inr (5, [.ref b, .int (nI z)]))) (fb : h b = some (tb, .inl (G.2.2.1 0, n, .inl (nA g)))) (hne : tr ≠ tb) (hz : z ≤ n) (hn : n < 2 ^ 31) (k v : Nat) (hk : k < 2 ^ 31) : Met l yX6_setByte wsX6_setByte ({ frames := 0, cells := 0, slots := 0, locals := 0 }) (ah_Pc G [.ref r, .int (nI k), .int (nI v)] h) (ah_Qv G (fun h' => h' = ah_up h b (tb, .inl (G.2.2.1 0, n, .inl (nA (rwS g z k v)))))) 0 0 (ah_A G) := by
  refine ah_ofW (cc := cX6_setByte) (maxL := 3) (ret := none) (by decide) rfl (Nat.le_of_ble_eq_true rfl) ?_
  intro p e s m below meth c ls hx hb hr hml hown hlocks hname hts hE hR hS hl
  have hown : s.vm.findClass RX6 = some m.cls := hown
  have hl : lv_has ls 3 [(0, .ref r), (1, .int (nI k)), (2, .int (nI v))] := hl
  have k30 := hts (.fieldLink RX6 30 "TextParts$Row" "size" "I") (by decide +kernel)
  have hinX6 : ∀ w ∈ wsX60, w ∈ wsX6_setByte := by decide +kernel
  have k9 := hts (.fieldLink RX6 9 "TextParts$Row" "bytes" "[I") (by decide +kernel)
  refine lv_iload_n hx hb dX6_setByte_0 rfl (lv_at hl 1 rfl) ?_
  refine lv_if_lt (tgt := 19) hx hb dX6_setByte_1 (by decide) (fun c_1 => ?_) (fun c_1 => ?_)
  · skip
    exact absurd c_1 (nI_pos (by omega))
  · skip
    refine lv_iload_n hx hb dX6_setByte_4 rfl (lv_at hl 1 rfl) ?_
    refine lv_aload_n hx hb dX6_setByte_5 rfl (lv_at hl 0 rfl) ?_
    refine ah_get (ci := 5) (v := .int (nI z)) (C := RX6) (T := TX6) (N := 2) hx hb hE hR hts hinX6 hown fr rfl 1 (by decide) k30 (fun _ h9 => h9) rfl dX6_setByte_6 ?_
    refine lv_icmp_ge (tgt := 19) hx hb dX6_setByte_9 (by decide) (fun c_2 => ?_) (fun c_2 => ?_)
    · skip
      have c_2 : z ≤ k := (nI_leI (by omega) (by omega)).mp c_2
      refine ah_vret hx hb hr hlocks hR hS dX6_setByte_19 ?_
      unfold rwS; rw [if_neg (by omega), ah_up_id fb]
    · skip
      have c_2 : ¬ (z ≤ k) := fun z9 => c_2 ((nI_leI (by omega) (by omega)).mpr z9)
      refine lv_aload_n hx hb dX6_setByte_12 rfl (lv_at hl 0 rfl) ?_
      refine ah_get (ci := 5) (v := .ref b) (C := RX6) (T := TX6) (N := 2) hx hb hE hR hts hinX6 hown fr rfl 0 (by decide) k9 (fun _ h9 => h9) rfl dX6_setByte_13 ?_
      refine lv_iload_n hx hb dX6_setByte_16 rfl (lv_at hl 1 rfl) ?_
      refine lv_iload_n hx hb dX6_setByte_17 rfl (lv_at hl 2 rfl) ?_
      refine ah_iast (i := k) hx hb hE hR hS fb (by omega) (by omega) dX6_setByte_18 (fun H locs hR hS => ?_)
      rw [nA_upd] at hR
      obtain ⟨h_3, e_4⟩ : ∃ zz9, zz9 = ah_up h b (tb, .inl (G.2.2.1 0, n, .inl (nA (gU g k v)))) := ⟨_, rfl⟩
      have hR : ah_R G h_3 H := by rw [e_4]; exact hR
      have f_5 : h_3 r = some (tr, .inr (5, [.ref b, .int (nI z)])) := by rw [e_4]; exact ah_keep fr fb hne
      have f_6 : h_3 b = some (tb, .inl (G.2.2.1 0, n, .inl (nA (gU g k v)))) := by rw [e_4]; exact ah_up_s _ _ _
      refine ah_vret hx hb hr hlocks hR hS dX6_setByte_19 ?_
      unfold rwS; rw [if_pos (by omega)]; exact e_4

set_option maxHeartbeats 4000000 in
set_option maxRecDepth 100000 in
theorem c_Row_append (l : Launch) (G : ah_G) (h : ah_H) (r b tr tb n z : Nat) (g : Nat → Nat) (fr : h r = some (tr, .inr (5, [.ref b, .int (nI z)]))) (fb : h b = some (tb, .inl (G.2.2.1 0, n, .inl (nA g)))) (hne : tr ≠ tb) (hz : z ≤ n) (hn : n < 2 ^ 31) (v : Nat) (hlt : z < n) : Met l yX6_append wsX6_append ({ frames := 0, cells := 0, slots := 0, locals := 0 }) (ah_Pc G [.ref r, .int (nI v)] h) (ah_Qv G (fun h' => h' = ah_up (ah_up h b (tb, .inl (G.2.2.1 0, n, .inl (nA (gU g z v))))) r (tr, .inr (5, [.ref b, .int (nI (z + 1))])))) 0 0 (ah_A G) := by
  refine ah_ofW (cc := cX6_append) (maxL := 2) (ret := none) (by decide) rfl (Nat.le_of_ble_eq_true rfl) ?_
  intro p e s m below meth c ls hx hb hr hml hown hlocks hname hts hE hR hS hl
  have hown : s.vm.findClass RX6 = some m.cls := hown
  have hl : lv_has ls 2 [(0, .ref r), (1, .int (nI v))] := hl
  have k30 := hts (.fieldLink RX6 30 "TextParts$Row" "size" "I") (by decide +kernel)
  have hinX6 : ∀ w ∈ wsX60, w ∈ wsX6_append := by decide +kernel
  have k9 := hts (.fieldLink RX6 9 "TextParts$Row" "bytes" "[I") (by decide +kernel)
  refine lv_aload_n hx hb dX6_append_0 rfl (lv_at hl 0 rfl) ?_
  refine ah_get (ci := 5) (v := .int (nI z)) (C := RX6) (T := TX6) (N := 2) hx hb hE hR hts hinX6 hown fr rfl 1 (by decide) k30 (fun _ h9 => h9) rfl dX6_append_1 ?_
  refine lv_aload_n hx hb dX6_append_4 rfl (lv_at hl 0 rfl) ?_
  refine ah_get (ci := 5) (v := .ref b) (C := RX6) (T := TX6) (N := 2) hx hb hE hR hts hinX6 hown fr rfl 0 (by decide) k9 (fun _ h9 => h9) rfl dX6_append_5 ?_
  refine ah_alen hx hb hE hR fb (show (ah_tys G)[0]? = some _ from rfl) dX6_append_8 ?_
  refine lv_icmp_ge (tgt := 32) hx hb dX6_append_9 (by decide) (fun c_1 => ?_) (fun c_1 => ?_)
  · skip
    have c_1 : n ≤ z := (nI_leI (by omega) (by omega)).mp c_1
    exact absurd c_1 (by omega)
  · skip
    have c_1 : ¬ (n ≤ z) := fun z9 => c_1 ((nI_leI (by omega) (by omega)).mpr z9)
    refine lv_aload_n hx hb dX6_append_12 rfl (lv_at hl 0 rfl) ?_
    refine ah_get (ci := 5) (v := .ref b) (C := RX6) (T := TX6) (N := 2) hx hb hE hR hts hinX6 hown fr rfl 0 (by decide) k9 (fun _ h9 => h9) rfl dX6_append_13 ?_
    refine lv_aload_n hx hb dX6_append_16 rfl (lv_at hl 0 rfl) ?_
    refine ah_get (ci := 5) (v := .int (nI z)) (C := RX6) (T := TX6) (N := 2) hx hb hE hR hts hinX6 hown fr rfl 1 (by decide) k30 (fun _ h9 => h9) rfl dX6_append_17 ?_
    refine lv_iload_n hx hb dX6_append_20 rfl (lv_at hl 1 rfl) ?_
    refine ah_iast (i := z) hx hb hE hR hS fb (by omega) (by omega) dX6_append_21 (fun H locs hR hS => ?_)
    rw [nA_upd] at hR
    obtain ⟨h_2, e_3⟩ : ∃ zz9, zz9 = ah_up h b (tb, .inl (G.2.2.1 0, n, .inl (nA (gU g z v)))) := ⟨_, rfl⟩
    have hR : ah_R G h_2 H := by rw [e_3]; exact hR
    have f_4 : h_2 r = some (tr, .inr (5, [.ref b, .int (nI z)])) := by rw [e_3]; exact ah_keep fr fb hne
    have f_5 : h_2 b = some (tb, .inl (G.2.2.1 0, n, .inl (nA (gU g z v)))) := by rw [e_3]; exact ah_up_s _ _ _
    refine lv_aload_n hx hb dX6_append_22 rfl (lv_at hl 0 rfl) ?_
    refine lv_dup hx hb dX6_append_23 rfl ?_
    refine ah_get (ci := 5) (v := .int (nI z)) (C := RX6) (T := TX6) (N := 2) hx hb hE hR hts hinX6 hown f_4 rfl 1 (by decide) k30 (fun _ h9 => h9) rfl dX6_append_24 ?_
    refine lv_iconst (v := nI 1) hx hb dX6_append_27 (by decide) ?_
    refine lv_iadd hx hb dX6_append_28 ?_
    refine ah_toi (v := nI (z + 1)) (nI_add _ _) ?_
    refine ah_put (ci := 5) (v := .int (nI (z + 1))) (ty := .int) (C := RX6) (T := TX6) (N := 2) hx hb hE hR hS hts hinX6 tyX6 tyX6_ok nmX6 hown f_4 rfl 1 (by decide) k30 (fun _ h9 => h9) rfl (by decide +kernel) rfl rfl (Nat.le_of_ble_eq_true rfl) dX6_append_29 (fun H locs hR hS => ?_)
    obtain ⟨h_6, e_7⟩ : ∃ zz9, zz9 = ah_up h_2 r (tr, .inr (5, [.ref b, .int (nI (z + 1))])) := ⟨_, rfl⟩
    have hR : ah_R G h_6 H := by rw [e_7]; exact hR
    have f_8 : h_6 r = some (tr, .inr (5, [.ref b, .int (nI (z + 1))])) := by rw [e_7]; exact ah_up_s _ _ _
    have f_9 : h_6 b = some (tb, .inl (G.2.2.1 0, n, .inl (nA (gU g z v)))) := by rw [e_7]; exact ah_keep f_5 f_4 (Ne.symm hne)
    refine ah_vret hx hb hr hlocks hR hS dX6_append_32 ?_
    rw [e_7, e_3]

set_option maxHeartbeats 4000000 in
set_option maxRecDepth 100000 in
theorem c_Row_byteOrZero (l : Launch) (G : ah_G) (h : ah_H) (r b tr tb n z : Nat) (g : Nat → Nat) (fr : h r = some (tr, .inr (5, [.ref b, .int (nI z)]))) (fb : h b = some (tb, .inl (G.2.2.1 0, n, .inl (nA g)))) (hne : tr ≠ tb) (hz : z ≤ n) (hn : n < 2 ^ 31) (hg : ∀ j, g j < 256) (k : Nat) (hk : k < 2 ^ 31) : Met l yX6_byteOrZero wsX6_byteOrZero ({ frames := 1, cells := 0, slots := 0, locals := 21 }) (ah_Pc G [.ref r, .int (nI k)] h) (ah_Qi G (fun v h' => v = nI (bz g z k) ∧ h' = h)) 0 0 (ah_A G) := by
  refine ah_ofW (cc := cX6_byteOrZero) (maxL := 2) (ret := (some .int)) (by decide) rfl (Nat.le_of_ble_eq_true rfl) ?_
  intro p e s m below meth c ls hx hb hr hml hown hlocks hname hts hE hR hS hl
  have hown : s.vm.findClass RX6 = some m.cls := hown
  have hl : lv_has ls 2 [(0, .ref r), (1, .int (nI k))] := hl
  have wmethodLink_RX6_27_Lib_Math_max_name := hts (.methodLink RX6 27 Lib.Math.max.name) (by decide +kernel)
  have wstatic_Lib_Math_max_name := hts (.static Lib.Math.max.name) (by decide +kernel)
  have winitialized_java_lang_Math := hts (.initialized "java/lang/Math") (by decide +kernel)
  have wcode_Lib_Math_max_name_Lib_Math_max_code_2_some_int := hts (.code Lib.Math.max.name Lib.Math.max.code 2 (some .int)) (by decide +kernel)
  refine lv_iconst (v := nI 0) hx hb dX6_byteOrZero_0 (by decide) ?_
  refine lv_aload_n hx hb dX6_byteOrZero_1 rfl (lv_at hl 0 rfl) ?_
  refine lv_iload_n hx hb dX6_byteOrZero_2 rfl (lv_at hl 1 rfl) ?_
  refine ah_calli (va_runV (As := [.int (nI k)]) (rest := [.int (nI 0)]) ⟨hx, hb, hml, hown, hts⟩ (c_Row_byteAt l G h r b tr tb n z g fr fb hne hz hn (nI k)) (cwV 1 hts gX6_byteOrZero_X6_byteAt rfl rfl rfl (by decide +kernel) ⟨Nat.le_of_ble_eq_true rfl, Nat.le_of_ble_eq_true rfl⟩) (ah_preV hE hR hS fr rfl) rfl rfl hl.1 rfl (lv_room (Nat.le_of_ble_eq_true rfl)) dX6_byteOrZero_3 ⟨Nat.le_of_ble_eq_true rfl, Nat.le_of_ble_eq_true rfl⟩) hS (fun r_3 h_1 H locs p_2 hR hS => ?_)
  obtain ⟨e9, eh9⟩ := p_2
  rw [eh9] at hR
  refine ah_toi e9 ?_
  refine va_mmax hx hb (hml.trans hl.1.symm) hown wmethodLink_RX6_27_Lib_Math_max_name wstatic_Lib_Math_max_name winitialized_java_lang_Math wcode_Lib_Math_max_name_Lib_Math_max_code_2_some_int (Nat.le_of_ble_eq_true rfl) (Nat.le_of_ble_eq_true rfl) (Nat.le_of_ble_eq_true rfl) (Nat.le_of_ble_eq_true rfl) dX6_byteOrZero_6 ?_
  refine ah_toi (v := nI (bz g z k)) (bz_max hg hz hn hk) ?_
  refine ah_iret (v := nI (bz g z k)) hx hb hr hlocks hR hS dX6_byteOrZero_9 ?_
  exact ⟨rfl, rfl⟩

set_option maxHeartbeats 4000000 in
set_option maxRecDepth 100000 in
theorem c_Row_isBitSet (l : Launch) (G : ah_G) (h : ah_H) (r b tr tb n z : Nat) (g : Nat → Nat) (fr : h r = some (tr, .inr (5, [.ref b, .int (nI z)]))) (fb : h b = some (tb, .inl (G.2.2.1 0, n, .inl (nA g)))) (hne : tr ≠ tb) (hz : z ≤ n) (hn : n < 2 ^ 31) (hg : ∀ j, g j < 256) (k : Nat) (hk : k < 2 ^ 30) : Met l yX6_isBitSet wsX6_isBitSet ({ frames := 2, cells := 0, slots := 0, locals := 42 }) (ah_Pc G [.ref r, .int (nI k)] h) (ah_Qi G (fun v h' => v = (if bz g z (2 + k / 8) / 2 ^ (k % 8) % 2 = 1 then 1 else 0) ∧ h' = h)) 0 0 (ah_A G) := by
  refine ah_ofW (cc := cX6_isBitSet) (maxL := 2) (ret := (some .boolean)) (by decide) rfl (Nat.le_of_ble_eq_true rfl) ?_
  intro p e s m below meth c ls hx hb hr hml hown hlocks hname hts hE hR hS hl
  have hown : s.vm.findClass RX6 = some m.cls := hown
  have hl : lv_has ls 2 [(0, .ref r), (1, .int (nI k))] := hl
  refine lv_aload_n hx hb dX6_isBitSet_0 rfl (lv_at hl 0 rfl) ?_
  refine lv_iconst (v := nI 2) hx hb dX6_isBitSet_1 (by decide) ?_
  refine lv_iload_n hx hb dX6_isBitSet_2 rfl (lv_at hl 1 rfl) ?_
  refine lv_bipush (v := nI 8) hx hb dX6_isBitSet_3 (by decide) ?_
  refine lv_idiv hx hb dX6_isBitSet_5 (by decide) ?_
  refine ah_toi (v := nI (k / 8)) (pk_div (by omega) (by omega) (by omega)) ?_
  refine lv_iadd hx hb dX6_isBitSet_6 ?_
  refine ah_toi (v := nI (2 + (k / 8))) (nI_add _ _) ?_
  refine ah_calli (va_runV (As := [.int (nI (2 + (k / 8)))]) (rest := []) ⟨hx, hb, hml, hown, hts⟩ (c_Row_byteOrZero l G h r b tr tb n z g fr fb hne hz hn hg (2 + (k / 8)) (by omega)) (cwV 1 hts gX6_isBitSet_X6_byteOrZero rfl rfl rfl (by decide +kernel) ⟨Nat.le_of_ble_eq_true rfl, Nat.le_of_ble_eq_true rfl⟩) (ah_preV hE hR hS fr rfl) rfl rfl hl.1 rfl (lv_room (Nat.le_of_ble_eq_true rfl)) dX6_isBitSet_7 ⟨Nat.le_of_ble_eq_true rfl, Nat.le_of_ble_eq_true rfl⟩) hS (fun r_3 h_1 H locs p_2 hR hS => ?_)
  obtain ⟨e_4, e_5⟩ := p_2
  rw [e_5] at hR
  refine ah_toi e_4 ?_
  refine lv_iload_n hx hb dX6_isBitSet_10 rfl (lv_at hl 1 rfl) ?_
  refine lv_bipush (v := nI 8) hx hb dX6_isBitSet_11 (by decide) ?_
  refine lv_irem hx hb dX6_isBitSet_13 (by decide) ?_
  refine ah_toi (v := nI (k % 8)) (pk_rem (by omega) (by omega) (by omega)) ?_
  refine lv_ishr hx hb dX6_isBitSet_14 ?_
  refine ah_toi (v := nI (bz g z (2 + k / 8) / 2 ^ (k % 8))) (ny_shr (by omega) (by have := bz_lt (z := z) (k := 2 + k / 8) hg; omega)) ?_
  refine lv_iconst (v := nI 1) hx hb dX6_isBitSet_15 (by decide) ?_
  refine lv_iand hx hb dX6_isBitSet_16 ?_
  refine ah_toi (v := nI (bz g z (2 + k / 8) / 2 ^ (k % 8) % 2)) (ny_a1 _) ?_
  refine lv_iconst (v := nI 1) hx hb dX6_isBitSet_17 (by decide) ?_
  refine lv_icmp_ne (tgt := 25) hx hb dX6_isBitSet_18 (by decide) (fun c_6 => ?_) (fun c_6 => ?_)
  · skip
    have c_6 : ¬ ((bz g z (2 + k / 8) / 2 ^ (k % 8) % 2) = 1) := fun z9 => c_6 ((nI_eq (by omega) (by omega)).mpr z9)
    refine lv_iconst (v := nI 0) hx hb dX6_isBitSet_25 (by decide) ?_
    refine ah_zret (v := nI 0) hx hb hr hlocks hR hS dX6_isBitSet_26 (by decide) ?_
    exact ⟨(if_neg c_6).symm, rfl⟩
  · skip
    have c_6 : (bz g z (2 + k / 8) / 2 ^ (k % 8) % 2) = 1 := (nI_eq (by omega) (by omega)).mp c_6
    refine lv_iconst (v := nI 1) hx hb dX6_isBitSet_21 (by decide) ?_
    refine lv_goto (tgt := 26) hx hb dX6_isBitSet_22 (by decide) ?_
    refine ah_zret (v := nI 1) hx hb hr hlocks hR hS dX6_isBitSet_26 (by decide) ?_
    exact ⟨(if_pos c_6).symm, rfl⟩

set_option maxHeartbeats 4000000 in
set_option maxRecDepth 100000 in
theorem c_Row_sevenAt (l : Launch) (G : ah_G) (h : ah_H) (r b tr tb n z : Nat) (g : Nat → Nat) (fr : h r = some (tr, .inr (5, [.ref b, .int (nI z)]))) (fb : h b = some (tb, .inl (G.2.2.1 0, n, .inl (nA g)))) (hne : tr ≠ tb) (hz : z ≤ n) (hn : n < 2 ^ 31) (hg : ∀ j, g j < 256) (k : Nat) (hk : k < 2 ^ 20) : Met l yX6_sevenAt wsX6_sevenAt ({ frames := 2, cells := 0, slots := 0, locals := 42 }) (ah_Pc G [.ref r, .int (nI k)] h) (ah_Qi G (fun v h' => v = nI (svn g z k) ∧ h' = h)) 0 0 (ah_A G) := by
  refine ah_ofW (cc := cX6_sevenAt) (maxL := 4) (ret := (some .int)) (by decide) rfl (Nat.le_of_ble_eq_true rfl) ?_
  intro p e s m below meth c ls hx hb hr hml hown hlocks hname hts hE hR hS hl
  have hown : s.vm.findClass RX6 = some m.cls := hown
  have hl : lv_has ls 4 [(0, .ref r), (1, .int (nI k))] := hl
  refine lv_iconst (v := nI 2) hx hb dX6_sevenAt_0 (by decide) ?_
  refine lv_bipush (v := nI 7) hx hb dX6_sevenAt_1 (by decide) ?_
  refine lv_iload_n hx hb dX6_sevenAt_3 rfl (lv_at hl 1 rfl) ?_
  refine lv_imul hx hb dX6_sevenAt_4 ?_
  refine ah_toi (v := nI (7 * k)) (pk_mul _ _) ?_
  refine lv_bipush (v := nI 8) hx hb dX6_sevenAt_5 (by decide) ?_
  refine lv_idiv hx hb dX6_sevenAt_7 (by decide) ?_
  refine ah_toi (v := nI ((7 * k) / 8)) (pk_div (by omega) (by omega) (by omega)) ?_
  refine lv_iadd hx hb dX6_sevenAt_8 ?_
  refine ah_toi (v := nI (2 + ((7 * k) / 8))) (nI_add _ _) ?_
  refine lv_istore_n (lv' := [(2, .int (nI (2 + ((7 * k) / 8)))), (0, .ref r), (1, .int (nI k))]) hx hb dX6_sevenAt_9 rfl hl (by decide) rfl (fun ls hl => ?_)
  refine lv_aload_n hx hb dX6_sevenAt_10 rfl (lv_at hl 1 rfl) ?_
  refine lv_iload_n hx hb dX6_sevenAt_11 rfl (lv_at hl 0 rfl) ?_
  refine ah_calli (va_runV (As := [.int (nI (2 + ((7 * k) / 8)))]) (rest := []) ⟨hx, hb, hml, hown, hts⟩ (c_Row_byteOrZero l G h r b tr tb n z g fr fb hne hz hn hg (2 + ((7 * k) / 8)) (by omega)) (cwV 1 hts gX6_sevenAt_X6_byteOrZero rfl rfl rfl (by decide +kernel) ⟨Nat.le_of_ble_eq_true rfl, Nat.le_of_ble_eq_true rfl⟩) (ah_preV hE hR hS fr rfl) rfl rfl hl.1 rfl (lv_room (Nat.le_of_ble_eq_true rfl)) dX6_sevenAt_12 ⟨Nat.le_of_ble_eq_true rfl, Nat.le_of_ble_eq_true rfl⟩) hS (fun r_3 h_1 H locs p_2 hR hS => ?_)
  obtain ⟨e_4, e_5⟩ := p_2
  rw [e_5] at hR
  refine ah_toi e_4 ?_
  refine lv_aload_n hx hb dX6_sevenAt_15 rfl (lv_at hl 1 rfl) ?_
  refine lv_iload_n hx hb dX6_sevenAt_16 rfl (lv_at hl 0 rfl) ?_
  refine lv_iconst (v := nI 1) hx hb dX6_sevenAt_17 (by decide) ?_
  refine lv_iadd hx hb dX6_sevenAt_18 ?_
  refine ah_toi (v := nI ((2 + ((7 * k) / 8)) + 1)) (nI_add _ _) ?_
  refine ah_calli (va_runV (As := [.int (nI ((2 + ((7 * k) / 8)) + 1))]) (rest := [.int (nI (bz g z (2 + ((7 * k) / 8))))]) ⟨hx, hb, hml, hown, hts⟩ (c_Row_byteOrZero l G h r b tr tb n z g fr fb hne hz hn hg ((2 + ((7 * k) / 8)) + 1) (by omega)) (cwV 1 hts gX6_sevenAt_X6_byteOrZero rfl rfl rfl (by decide +kernel) ⟨Nat.le_of_ble_eq_true rfl, Nat.le_of_ble_eq_true rfl⟩) (ah_preV hE hR hS fr rfl) rfl rfl hl.1 rfl (lv_room (Nat.le_of_ble_eq_true rfl)) dX6_sevenAt_19 ⟨Nat.le_of_ble_eq_true rfl, Nat.le_of_ble_eq_true rfl⟩) hS (fun r_8 h_6 H locs p_7 hR hS => ?_)
  obtain ⟨e_9, e_10⟩ := p_7
  rw [e_10] at hR
  refine ah_toi e_9 ?_
  refine lv_bipush (v := nI 8) hx hb dX6_sevenAt_22 (by decide) ?_
  have hA := bz_lt (z := z) (k := 2 + 7 * k / 8) hg
  have hB := bz_lt (z := z) (k := 2 + 7 * k / 8 + 1) hg
  refine lv_ishl hx hb dX6_sevenAt_24 ?_
  refine ah_toi (v := nI (bz g z (2 + 7 * k / 8 + 1) * 2 ^ 8)) (ny_shl (by omega) (by omega)) ?_
  refine lv_ior hx hb dX6_sevenAt_25 ?_
  refine ah_toi (v := nI (bz g z (2 + 7 * k / 8) + 256 * bz g z (2 + 7 * k / 8 + 1))) (ny_or8 _ hA) ?_
  refine lv_istore_n (lv' := [(3, .int (nI (bz g z (2 + 7 * k / 8) + 256 * bz g z (2 + 7 * k / 8 + 1)))), (2, .int (nI (2 + ((7 * k) / 8)))), (0, .ref r), (1, .int (nI k))]) hx hb dX6_sevenAt_26 rfl hl (by decide) rfl (fun ls hl => ?_)
  refine lv_iload_n hx hb dX6_sevenAt_27 rfl (lv_at hl 0 rfl) ?_
  refine lv_bipush (v := nI 7) hx hb dX6_sevenAt_28 (by decide) ?_
  refine lv_iload_n hx hb dX6_sevenAt_30 rfl (lv_at hl 3 rfl) ?_
  refine lv_imul hx hb dX6_sevenAt_31 ?_
  refine ah_toi (v := nI (7 * k)) (pk_mul _ _) ?_
  refine lv_bipush (v := nI 8) hx hb dX6_sevenAt_32 (by decide) ?_
  refine lv_irem hx hb dX6_sevenAt_34 (by decide) ?_
  refine ah_toi (v := nI ((7 * k) % 8)) (pk_rem (by omega) (by omega) (by omega)) ?_
  refine lv_ishr hx hb dX6_sevenAt_35 ?_
  refine ah_toi (v := nI ((bz g z (2 + 7 * k / 8) + 256 * bz g z (2 + 7 * k / 8 + 1)) / 2 ^ (7 * k % 8))) (ny_shr (by omega) (by omega)) ?_
  refine lv_bipush (v := nI 127) hx hb dX6_sevenAt_36 (by decide) ?_
  refine lv_iand hx hb dX6_sevenAt_38 ?_
  refine ah_toi (v := nI (svn g z k)) (ny_a127 _) ?_
  refine ah_iret (v := nI (svn g z k)) hx hb hr hlocks hR hS dX6_sevenAt_39 ?_
  exact ⟨rfl, rfl⟩

set_option maxHeartbeats 4000000 in
set_option maxRecDepth 100000 in
theorem c_Row_addSeven (l : Launch) (G : ah_G) (h : ah_H) (r b tr tb n z : Nat) (g : Nat → Nat) (fr : h r = some (tr, .inr (5, [.ref b, .int (nI z)]))) (fb : h b = some (tb, .inl (G.2.2.1 0, n, .inl (nA g)))) (hne : tr ≠ tb) (hz : z ≤ n) (hn : n < 2 ^ 31) (hg : ∀ j, g j < 256) (k sv : Nat) (hk : k < 2 ^ 20) (hs : sv < 128) : Met l yX6_addSeven wsX6_addSeven ({ frames := 2, cells := 0, slots := 0, locals := 42 }) (ah_Pc G [.ref r, .int (nI k), .int (nI sv)] h) (ah_Qv G (fun h' => h' = ah_up h b (tb, .inl (G.2.2.1 0, n, .inl (nA (rwAdd g z k sv)))))) 0 0 (ah_A G) := by
  refine ah_ofW (cc := cX6_addSeven) (maxL := 5) (ret := none) (by decide) rfl (Nat.le_of_ble_eq_true rfl) ?_
  intro p e s m below meth c ls hx hb hr hml hown hlocks hname hts hE hR hS hl
  have hown : s.vm.findClass RX6 = some m.cls := hown
  have hl : lv_has ls 5 [(0, .ref r), (1, .int (nI k)), (2, .int (nI sv))] := hl
  refine lv_iconst (v := nI 2) hx hb dX6_addSeven_0 (by decide) ?_
  refine lv_bipush (v := nI 7) hx hb dX6_addSeven_1 (by decide) ?_
  refine lv_iload_n hx hb dX6_addSeven_3 rfl (lv_at hl 1 rfl) ?_
  refine lv_imul hx hb dX6_addSeven_4 ?_
  refine ah_toi (v := nI (7 * k)) (pk_mul _ _) ?_
  refine lv_bipush (v := nI 8) hx hb dX6_addSeven_5 (by decide) ?_
  refine lv_idiv hx hb dX6_addSeven_7 (by decide) ?_
  refine ah_toi (v := nI ((7 * k) / 8)) (pk_div (by omega) (by omega) (by omega)) ?_
  refine lv_iadd hx hb dX6_addSeven_8 ?_
  refine ah_toi (v := nI (2 + ((7 * k) / 8))) (nI_add _ _) ?_
  refine lv_istore_n (lv' := [(3, .int (nI (2 + ((7 * k) / 8)))), (0, .ref r), (1, .int (nI k)), (2, .int (nI sv))]) hx hb dX6_addSeven_9 rfl hl (by decide) rfl (fun ls hl => ?_)
  refine lv_iload_n hx hb dX6_addSeven_10 rfl (lv_at hl 3 rfl) ?_
  refine lv_bipush (v := nI 7) hx hb dX6_addSeven_11 (by decide) ?_
  refine lv_iload_n hx hb dX6_addSeven_13 rfl (lv_at hl 2 rfl) ?_
  refine lv_imul hx hb dX6_addSeven_14 ?_
  refine ah_toi (v := nI (7 * k)) (pk_mul _ _) ?_
  refine lv_bipush (v := nI 8) hx hb dX6_addSeven_15 (by decide) ?_
  refine lv_irem hx hb dX6_addSeven_17 (by decide) ?_
  refine ah_toi (v := nI ((7 * k) % 8)) (pk_rem (by omega) (by omega) (by omega)) ?_
  have hA := bz_lt (z := z) (k := 2 + 7 * k / 8) hg
  have h7 : 7 * k % 8 < 8 := Nat.mod_lt _ (by omega)
  have hp : 2 ^ (7 * k % 8) ≤ 2 ^ 7 := Nat.pow_le_pow_right (by omega) (by omega)
  have hsh : sv * 2 ^ (7 * k % 8) < 2 ^ 15 := Nat.lt_of_le_of_lt (Nat.mul_le_mul_left _ hp) (by omega)
  refine lv_ishl hx hb dX6_addSeven_18 ?_
  refine ah_toi (v := nI (sv * 2 ^ (7 * k % 8))) (ny_shl (by omega) (by omega)) ?_
  refine lv_istore (lv' := [(4, .int (nI (sv * 2 ^ (7 * k % 8)))), (3, .int (nI (2 + ((7 * k) / 8)))), (0, .ref r), (1, .int (nI k)), (2, .int (nI sv))]) hx hb dX6_addSeven_19 hl (by decide) rfl (fun ls hl => ?_)
  refine lv_aload_n hx hb dX6_addSeven_21 rfl (lv_at hl 2 rfl) ?_
  refine lv_iload_n hx hb dX6_addSeven_22 rfl (lv_at hl 1 rfl) ?_
  refine lv_aload_n hx hb dX6_addSeven_23 rfl (lv_at hl 2 rfl) ?_
  refine lv_iload_n hx hb dX6_addSeven_24 rfl (lv_at hl 1 rfl) ?_
  refine ah_calli (va_runV (As := [.int (nI (2 + ((7 * k) / 8)))]) (rest := [.int (nI (2 + ((7 * k) / 8))), .ref r]) ⟨hx, hb, hml, hown, hts⟩ (c_Row_byteOrZero l G h r b tr tb n z g fr fb hne hz hn hg (2 + ((7 * k) / 8)) (by omega)) (cwV 1 hts gX6_addSeven_X6_byteOrZero rfl rfl rfl (by decide +kernel) ⟨Nat.le_of_ble_eq_true rfl, Nat.le_of_ble_eq_true rfl⟩) (ah_preV hE hR hS fr rfl) rfl rfl hl.1 rfl (lv_room (Nat.le_of_ble_eq_true rfl)) dX6_addSeven_25 ⟨Nat.le_of_ble_eq_true rfl, Nat.le_of_ble_eq_true rfl⟩) hS (fun r_3 h_1 H locs p_2 hR hS => ?_)
  obtain ⟨e_4, e_5⟩ := p_2
  rw [e_5] at hR
  refine ah_toi e_4 ?_
  refine lv_iload hx hb dX6_addSeven_28 (lv_at hl 0 rfl) ?_
  refine lv_sipush (v := nI 255) hx hb dX6_addSeven_30 (by decide) ?_
  refine lv_iand hx hb dX6_addSeven_33 ?_
  refine ah_toi (v := nI (sv * 2 ^ (7 * k % 8) % 256)) (ny_a255 _) ?_
  refine lv_ior hx hb dX6_addSeven_34 ?_
  refine ah_toi (v := nI (bz g z (2 + 7 * k / 8) ||| sv * 2 ^ (7 * k % 8) % 256)) (ny_or _ _) ?_
  refine ah_callv (va_runV (As := [.int (nI (2 + ((7 * k) / 8))), .int (nI (bz g z (2 + 7 * k / 8) ||| sv * 2 ^ (7 * k % 8) % 256))]) (rest := []) ⟨hx, hb, hml, hown, hts⟩ (c_Row_setByte l G h r b tr tb n z g fr fb hne hz hn (2 + ((7 * k) / 8)) (bz g z (2 + 7 * k / 8) ||| sv * 2 ^ (7 * k % 8) % 256) (by omega)) (cwV 2 hts gX6_addSeven_X6_setByte rfl rfl rfl (by decide +kernel) ⟨Nat.le_of_ble_eq_true rfl, Nat.le_of_ble_eq_true rfl⟩) (ah_preV hE hR hS fr rfl) rfl rfl hl.1 rfl (lv_room (Nat.le_of_ble_eq_true rfl)) dX6_addSeven_35 ⟨Nat.le_of_ble_eq_true rfl, Nat.le_of_ble_eq_true rfl⟩) hS (fun h_6 H locs p_7 hR hS => ?_)
  have f_9 : h_6 r = some (tr, .inr (5, [.ref b, .int (nI z)])) := by rw [p_7]; exact ah_keep fr fb hne
  have f_10 : h_6 b = some (tb, .inl (G.2.2.1 0, n, .inl (nA (rwS g z (2 + ((7 * k) / 8)) (bz g z (2 + 7 * k / 8) ||| sv * 2 ^ (7 * k % 8) % 256))))) := by rw [p_7]; exact ah_up_s _ _ _
  have hg1 := rwS_lt (z := z) (k := 2 + 7 * k / 8) hg (or_lt8 hA (show sv * 2 ^ (7 * k % 8) % 256 < 256 by omega))
  refine lv_aload_n hx hb dX6_addSeven_38 rfl (lv_at hl 2 rfl) ?_
  refine lv_iload_n hx hb dX6_addSeven_39 rfl (lv_at hl 1 rfl) ?_
  refine lv_iconst (v := nI 1) hx hb dX6_addSeven_40 (by decide) ?_
  refine lv_iadd hx hb dX6_addSeven_41 ?_
  refine ah_toi (v := nI ((2 + ((7 * k) / 8)) + 1)) (nI_add _ _) ?_
  refine lv_aload_n hx hb dX6_addSeven_42 rfl (lv_at hl 2 rfl) ?_
  refine lv_iload_n hx hb dX6_addSeven_43 rfl (lv_at hl 1 rfl) ?_
  refine lv_iconst (v := nI 1) hx hb dX6_addSeven_44 (by decide) ?_
  refine lv_iadd hx hb dX6_addSeven_45 ?_
  refine ah_toi (v := nI ((2 + ((7 * k) / 8)) + 1)) (nI_add _ _) ?_
  refine ah_calli (va_runV (As := [.int (nI ((2 + ((7 * k) / 8)) + 1))]) (rest := [.int (nI ((2 + ((7 * k) / 8)) + 1)), .ref r]) ⟨hx, hb, hml, hown, hts⟩ (c_Row_byteOrZero l G h_6 r b tr tb n z (rwS g z (2 + ((7 * k) / 8)) (bz g z (2 + 7 * k / 8) ||| sv * 2 ^ (7 * k % 8) % 256)) f_9 f_10 hne hz hn hg1 ((2 + ((7 * k) / 8)) + 1) (by omega)) (cwV 1 hts gX6_addSeven_X6_byteOrZero rfl rfl rfl (by decide +kernel) ⟨Nat.le_of_ble_eq_true rfl, Nat.le_of_ble_eq_true rfl⟩) (ah_preV hE hR hS f_9 rfl) rfl rfl hl.1 rfl (lv_room (Nat.le_of_ble_eq_true rfl)) dX6_addSeven_46 ⟨Nat.le_of_ble_eq_true rfl, Nat.le_of_ble_eq_true rfl⟩) hS (fun r_13 h_11 H locs p_12 hR hS => ?_)
  obtain ⟨e_14, e_15⟩ := p_12
  rw [e_15] at hR
  refine ah_toi e_14 ?_
  refine lv_iload hx hb dX6_addSeven_49 (lv_at hl 0 rfl) ?_
  refine lv_bipush (v := nI 8) hx hb dX6_addSeven_51 (by decide) ?_
  refine lv_ishr hx hb dX6_addSeven_53 ?_
  refine ah_toi (v := nI (sv * 2 ^ (7 * k % 8) / 2 ^ 8)) (ny_shr (by omega) (by omega)) ?_
  refine lv_ior hx hb dX6_addSeven_54 ?_
  refine ah_toi (v := nI (bz (rwS g z (2 + 7 * k / 8) (bz g z (2 + 7 * k / 8) ||| sv * 2 ^ (7 * k % 8) % 256)) z (2 + 7 * k / 8 + 1) ||| sv * 2 ^ (7 * k % 8) / 2 ^ 8)) (ny_or _ _) ?_
  refine ah_callv (va_runV (As := [.int (nI ((2 + ((7 * k) / 8)) + 1)), .int (nI (bz (rwS g z (2 + 7 * k / 8) (bz g z (2 + 7 * k / 8) ||| sv * 2 ^ (7 * k % 8) % 256)) z (2 + 7 * k / 8 + 1) ||| sv * 2 ^ (7 * k % 8) / 2 ^ 8))]) (rest := []) ⟨hx, hb, hml, hown, hts⟩ (c_Row_setByte l G h_6 r b tr tb n z (rwS g z (2 + ((7 * k) / 8)) (bz g z (2 + 7 * k / 8) ||| sv * 2 ^ (7 * k % 8) % 256)) f_9 f_10 hne hz hn ((2 + ((7 * k) / 8)) + 1) (bz (rwS g z (2 + 7 * k / 8) (bz g z (2 + 7 * k / 8) ||| sv * 2 ^ (7 * k % 8) % 256)) z (2 + 7 * k / 8 + 1) ||| sv * 2 ^ (7 * k % 8) / 2 ^ 8) (by omega)) (cwV 2 hts gX6_addSeven_X6_setByte rfl rfl rfl (by decide +kernel) ⟨Nat.le_of_ble_eq_true rfl, Nat.le_of_ble_eq_true rfl⟩) (ah_preV hE hR hS f_9 rfl) rfl rfl hl.1 rfl (lv_room (Nat.le_of_ble_eq_true rfl)) dX6_addSeven_55 ⟨Nat.le_of_ble_eq_true rfl, Nat.le_of_ble_eq_true rfl⟩) hS (fun h_16 H locs p_17 hR hS => ?_)
  have f_19 : h_16 r = some (tr, .inr (5, [.ref b, .int (nI z)])) := by rw [p_17]; exact ah_keep f_9 f_10 hne
  have f_20 : h_16 b = some (tb, .inl (G.2.2.1 0, n, .inl (nA (rwS (rwS g z (2 + ((7 * k) / 8)) (bz g z (2 + 7 * k / 8) ||| sv * 2 ^ (7 * k % 8) % 256)) z ((2 + ((7 * k) / 8)) + 1) (bz (rwS g z (2 + 7 * k / 8) (bz g z (2 + 7 * k / 8) ||| sv * 2 ^ (7 * k % 8) % 256)) z (2 + 7 * k / 8 + 1) ||| sv * 2 ^ (7 * k % 8) / 2 ^ 8))))) := by rw [p_17]; exact ah_up_s _ _ _
  refine ah_vret hx hb hr hlocks hR hS dX6_addSeven_58 ?_
  rw [p_17, p_7, ah_up2]; rfl

set_option maxHeartbeats 4000000 in
set_option maxRecDepth 100000 in
theorem c_Row_restart (l : Launch) (G : ah_G) (h : ah_H) (r b tr tb n z : Nat) (g : Nat → Nat) (fr : h r = some (tr, .inr (5, [.ref b, .int (nI z)]))) (fb : h b = some (tb, .inl (G.2.2.1 0, n, .inl (nA g)))) (hne : tr ≠ tb) (hz : z ≤ n) (hn : n < 2 ^ 31) (k : Nat) (hk : k ≤ n) : Met l yX6_restart wsX6_restart ({ frames := 1, cells := 0, slots := 0, locals := 23 }) (ah_Pc G [.ref r, .int (nI k)] h) (ah_Qv G (fun h' => h' = ah_up (ah_up h b (tb, .inl (G.2.2.1 0, n, .inl (nA (gZ g n 0))))) r (tr, .inr (5, [.ref b, .int (nI k)])))) 0 0 (ah_A G) := by
  refine ah_ofW (cc := cX6_restart) (maxL := 2) (ret := none) (by decide) rfl (Nat.le_of_ble_eq_true rfl) ?_
  intro p e s m below meth c ls hx hb hr hml hown hlocks hname hts hE hR hS hl
  have hown : s.vm.findClass RX6 = some m.cls := hown
  have hl : lv_has ls 2 [(0, .ref r), (1, .int (nI k))] := hl
  have k9 := hts (.fieldLink RX6 9 "TextParts$Row" "bytes" "[I") (by decide +kernel)
  have hinX6 : ∀ w ∈ wsX60, w ∈ wsX6_restart := by decide +kernel
  have wmethodLink_RX6_21_Lib_Math_min_name := hts (.methodLink RX6 21 Lib.Math.min.name) (by decide +kernel)
  have wstatic_Lib_Math_min_name := hts (.static Lib.Math.min.name) (by decide +kernel)
  have winitialized_java_lang_Math := hts (.initialized "java/lang/Math") (by decide +kernel)
  have wcode_Lib_Math_min_name_Lib_Math_min_code_2_some_int := hts (.code Lib.Math.min.name Lib.Math.min.code 2 (some .int)) (by decide +kernel)
  have wmethodLink_RX6_27_Lib_Math_max_name := hts (.methodLink RX6 27 Lib.Math.max.name) (by decide +kernel)
  have wstatic_Lib_Math_max_name := hts (.static Lib.Math.max.name) (by decide +kernel)
  have wcode_Lib_Math_max_name_Lib_Math_max_code_2_some_int := hts (.code Lib.Math.max.name Lib.Math.max.code 2 (some .int)) (by decide +kernel)
  have k30 := hts (.fieldLink RX6 30 "TextParts$Row" "size" "I") (by decide +kernel)
  refine lv_aload_n hx hb dX6_restart_0 rfl (lv_at hl 0 rfl) ?_
  refine ah_get (ci := 5) (v := .ref b) (C := RX6) (T := TX6) (N := 2) hx hb hE hR hts hinX6 hown fr rfl 0 (by decide) k9 (fun _ h9 => h9) rfl dX6_restart_1 ?_
  refine lv_iconst (v := nI 0) hx hb dX6_restart_4 (by decide) ?_
  refine ah_callv (va_runS (As := [.ref b, .int (nI 0)]) (rest := []) ⟨hx, hb, hml, hown, hts⟩ (c_fill l G h b tb n 0 g fb hn) (va_cwS 2 hts gX6_restart_J7_fill_53178 rfl rfl rfl (by decide +kernel) ⟨Nat.le_of_ble_eq_true rfl, Nat.le_of_ble_eq_true rfl⟩) (ah_preS hE hR hS) rfl rfl hl.1 rfl (lv_room (Nat.le_of_ble_eq_true rfl)) dX6_restart_5 ⟨Nat.le_of_ble_eq_true rfl, Nat.le_of_ble_eq_true rfl⟩) hS (fun h_1 H locs p_2 hR hS => ?_)
  have f_4 : h_1 r = some (tr, .inr (5, [.ref b, .int (nI z)])) := by rw [p_2]; exact ah_keep fr fb hne
  have f_5 : h_1 b = some (tb, .inl (G.2.2.1 0, n, .inl (nA (gZ g n 0)))) := by rw [p_2]; exact ah_up_s _ _ _
  refine lv_aload_n hx hb dX6_restart_8 rfl (lv_at hl 0 rfl) ?_
  refine lv_iconst (v := nI 0) hx hb dX6_restart_9 (by decide) ?_
  refine lv_iload_n hx hb dX6_restart_10 rfl (lv_at hl 1 rfl) ?_
  refine lv_aload_n hx hb dX6_restart_11 rfl (lv_at hl 0 rfl) ?_
  refine ah_get (ci := 5) (v := .ref b) (C := RX6) (T := TX6) (N := 2) hx hb hE hR hts hinX6 hown f_4 rfl 0 (by decide) k9 (fun _ h9 => h9) rfl dX6_restart_12 ?_
  refine ah_alen hx hb hE hR f_5 (show (ah_tys G)[0]? = some _ from rfl) dX6_restart_15 ?_
  refine va_mmin hx hb (hml.trans hl.1.symm) hown wmethodLink_RX6_21_Lib_Math_min_name wstatic_Lib_Math_min_name winitialized_java_lang_Math wcode_Lib_Math_min_name_Lib_Math_min_code_2_some_int (Nat.le_of_ble_eq_true rfl) (Nat.le_of_ble_eq_true rfl) (Nat.le_of_ble_eq_true rfl) (Nat.le_of_ble_eq_true rfl) dX6_restart_16 ?_
  refine ah_toi (v := nI k) (mm_min (by omega) (by omega) hk) ?_
  refine va_mmax hx hb (hml.trans hl.1.symm) hown wmethodLink_RX6_27_Lib_Math_max_name wstatic_Lib_Math_max_name winitialized_java_lang_Math wcode_Lib_Math_max_name_Lib_Math_max_code_2_some_int (Nat.le_of_ble_eq_true rfl) (Nat.le_of_ble_eq_true rfl) (Nat.le_of_ble_eq_true rfl) (Nat.le_of_ble_eq_true rfl) dX6_restart_19 ?_
  refine ah_toi (v := nI k) (mm_max (by omega)) ?_
  refine ah_put (ci := 5) (v := .int (nI k)) (ty := .int) (C := RX6) (T := TX6) (N := 2) hx hb hE hR hS hts hinX6 tyX6 tyX6_ok nmX6 hown f_4 rfl 1 (by decide) k30 (fun _ h9 => h9) rfl (by decide +kernel) rfl rfl (Nat.le_of_ble_eq_true rfl) dX6_restart_22 (fun H locs hR hS => ?_)
  obtain ⟨h_6, e_7⟩ : ∃ zz9, zz9 = ah_up h_1 r (tr, .inr (5, [.ref b, .int (nI k)])) := ⟨_, rfl⟩
  have hR : ah_R G h_6 H := by rw [e_7]; exact hR
  have f_8 : h_6 r = some (tr, .inr (5, [.ref b, .int (nI k)])) := by rw [e_7]; exact ah_up_s _ _ _
  have f_9 : h_6 b = some (tb, .inl (G.2.2.1 0, n, .inl (nA (gZ g n 0)))) := by rw [e_7]; exact ah_keep f_5 f_4 (Ne.symm hne)
  refine ah_vret hx hb hr hlocks hR hS dX6_restart_25 ?_
  rw [e_7, p_2]

set_option maxHeartbeats 4000000 in
set_option maxRecDepth 100000 in
theorem c_Row_init (l : Launch) (G : ah_G) (h : ah_H) (r tr tb n : Nat) (fr : h r = some (tr, .inr (5, [.null, .int (nI 0)]))) (hne : tr ≠ tb) (hn : n * 4 ≤ 536870912) : Met l yX6_init wsX6_init ({ frames := 1, cells := 1, slots := n, locals := 20 }) (ah_Pc G [.ref r, .int (nI n)] h) (ah_Qv G (fun h' => ∃ q, h q = none ∧ h' = ah_up (ah_up h q (tb, .inl (G.2.2.1 0, n, .inl (nA (fun _ => 0))))) r (tr, .inr (5, [.ref q, .int (nI 0)])))) 1 n (ah_A G) := by
  refine ah_ofW (cc := cX6_init) (maxL := 2) (ret := none) (by decide) rfl (Nat.le_of_ble_eq_true rfl) ?_
  intro p e s m below meth c ls hx hb hr hml hown hlocks hname hts hE hR hS hl
  have hown : s.vm.findClass RX6 = some m.cls := hown
  have hl : lv_has ls 2 [(0, .ref r), (1, .int (nI n))] := hl
  have wmethodLink_RX6_3_objectInit := hts (.methodLink RX6 3 objectInit) (by decide +kernel)
  have winstanceMethod_objectInit := hts (.instanceMethod objectInit) (by decide +kernel)
  have wcode_objectInit_0xb1_1_none := hts (.code objectInit ⟨#[0xb1]⟩ 1 none) (by decide +kernel)
  have warrayClass_int := hts (.arrayClass .int) (by decide +kernel)
  have k9 := hts (.fieldLink RX6 9 "TextParts$Row" "bytes" "[I") (by decide +kernel)
  have hinX6 : ∀ w ∈ wsX60, w ∈ wsX6_init := by decide +kernel
  refine lv_aload_n hx hb dX6_init_0 rfl (lv_at hl 0 rfl) ?_
  refine W.objInit hx hb hown wmethodLink_RX6_3_objectInit winstanceMethod_objectInit wcode_objectInit_0xb1_1_none rfl (by rw [hml]; exact hl.1) rfl dX6_init_1 (Nat.le_of_ble_eq_true rfl) (Nat.le_of_ble_eq_true rfl) ?_
  refine W.eq (g2 := F0 m 4 ls []) rfl ?_
  refine lv_aload_n hx hb dX6_init_4 rfl (lv_at hl 0 rfl) ?_
  refine lv_iload_n hx hb dX6_init_5 rfl (lv_at hl 1 rfl) ?_
  refine ah_newi (n := n) hx hb hE hR hS warrayClass_int tb (by omega) (Nat.le_of_ble_eq_true rfl) (by simp) dX6_init_6 (fun q_1 H hq_2 hR hS => ?_)
  rw [nA_0] at hR
  obtain ⟨h_3, e_4⟩ : ∃ zz9, zz9 = ah_up h q_1 (tb, .inl (G.2.2.1 0, n, .inl (nA (fun _ => 0)))) := ⟨_, rfl⟩
  have hR : ah_R G h_3 H := by rw [e_4]; exact hR
  have f_5 : h_3 r = some (tr, .inr (5, [.null, .int (nI 0)])) := by rw [e_4]; exact ah_new fr hq_2
  have f_6 : h_3 q_1 = some (tb, .inl (G.2.2.1 0, n, .inl (nA (fun _ => 0)))) := by rw [e_4]; exact ah_up_s _ _ _
  refine ah_putF (ci := 5) (v := .ref q_1) (ty := .array .int) (C := RX6) (T := TX6) (N := 2) hx hb hE hR hS hts hinX6 tyX6 tyX6_ok nmX6 hown f_5 rfl 0 (by decide) k9 (fun _ h9 => h9) rfl hname rfl (by decide +kernel) rfl rfl (Nat.le_of_ble_eq_true rfl) dX6_init_8 (fun H locs hR hS => ?_)
  obtain ⟨h_7, e_8⟩ : ∃ zz9, zz9 = ah_up h_3 r (tr, .inr (5, [.ref q_1, .int (nI 0)])) := ⟨_, rfl⟩
  have hR : ah_R G h_7 H := by rw [e_8]; exact hR
  have f_9 : h_7 r = some (tr, .inr (5, [.ref q_1, .int (nI 0)])) := by rw [e_8]; exact ah_up_s _ _ _
  have f_10 : h_7 q_1 = some (tb, .inl (G.2.2.1 0, n, .inl (nA (fun _ => 0)))) := by rw [e_8]; exact ah_keep f_6 f_5 (Ne.symm hne)
  refine W.widen (k := 1) (n := n) (by omega) (by omega) ?_
  refine ah_vret hx hb hr hlocks hR hS dX6_init_11 ?_
  exact ⟨q_1, hq_2, by rw [e_8, e_4]⟩
end
section
/-! ===== TextParts$Alphabet ===== -/
abbrev ownP (u : Nat) : Prop := ¬ (u = 36 ∨ u = 64) ∧ (u = 10 ∨ u = 13 ∨ (32 ≤ u ∧ u ≤ 90) ∨ (97 ≤ u ∧ u ≤ 122))
/-- what stands in g at the first place from k on, m places at most, where f holds x; -1 if there is none -/
def ptn (f g : Nat → Int32) : Nat → Nat → Int32 → Int32
  | 0, _, _ => -1
  | m + 1, k, x => if f k = x then g k else ptn f g m (k + 1) x
abbrev tab (k : Nat) : List Int32 := match k with
  | 0 => ah_ou
  | 1 => ah_os
  | 2 => ah_eu
  | _ => ah_es
abbrev tabF (k : Nat) : Nat → Int32 := fun j => (tab k).getD j 0
theorem ah_E.tab {G : ah_G} {s : State} (h : ah_E G s) : ∀ k, k < 4 → va_T .int (G.2.2.2 k) (_root_.List.length (tab k)) (fun j => .int ((tab k).getD j 0)) (ah_A G) s s.heap := by
  obtain ⟨-, -, -, -, z1, z2, z3, z4⟩ := h
  intro k hk
  match k, hk with
  | 0, _ => exact z1.2
  | 1, _ => exact z2.2
  | 2, _ => exact z3.2
  | 3, _ => exact z4.2
  | k + 4, hk => omega
def plainSv (u : Nat) : Int32 := if ownP u then nI u else ptn (tabF 0) (tabF 1) 11 0 (nI u)
def escSv (u : Nat) : Int32 := ptn (tabF 2) (tabF 3) 9 0 (nI u)
def svFor (u : Nat) : Nat := if plainSv u = -1 then (if escSv u = -1 then 0 else 2) else 1
def plainU (v : Nat) : Int32 := if (if ownP v then nI v else ptn (tabF 1) (tabF 0) 11 0 (nI v)) = -1 then nI 63 else (if ownP v then nI v else ptn (tabF 1) (tabF 0) 11 0 (nI v))
def escU (v : Nat) : Int32 := if ptn (tabF 3) (tabF 2) 9 0 (nI v) = -1 then plainU v else ptn (tabF 3) (tabF 2) 9 0 (nI v)

set_option maxHeartbeats 4000000 in
set_option maxRecDepth 100000 in
theorem c_own (l : Launch) (G : ah_G) (h : ah_H) (u : Nat) (hu : u < 2 ^ 31) : Met l yX0_isItsOwnSeven wsX0_isItsOwnSeven ({ frames := 0, cells := 0, slots := 0, locals := 0 }) (ah_Pc G [.int (nI u)] h) (ah_Qi G (fun v h' => v = nI (if ownP u then 1 else 0) ∧ h' = h)) 0 0 (ah_A G) := by
  refine ah_ofW (cc := cX0_isItsOwnSeven) (maxL := 1) (ret := (some .boolean)) (by decide) rfl (Nat.le_of_ble_eq_true rfl) ?_
  intro p e s m below meth c ls hx hb hr hml hown hlocks hname hts hE hR hS hl
  have hown : s.vm.findClass RX0 = some m.cls := hown
  have hl : lv_has ls 1 [(0, .int (nI u))] := hl
  refine lv_iload_n hx hb dX0_isItsOwnSeven_0 rfl (lv_at hl 0 rfl) ?_
  refine lv_bipush (v := nI 36) hx hb dX0_isItsOwnSeven_1 (by decide) ?_
  refine lv_icmp_eq (tgt := 12) hx hb dX0_isItsOwnSeven_3 (by decide) (fun c_1 => ?_) (fun c_1 => ?_)
  · skip
    have c_1 : u = 36 := (nI_eq (by omega) (by omega)).mp c_1
    refine lv_iconst (v := nI 0) hx hb dX0_isItsOwnSeven_12 (by decide) ?_
    refine ah_zret (v := nI 0) hx hb hr hlocks hR hS dX0_isItsOwnSeven_13 (by decide) ?_
    first | (exfalso; omega) | exact ⟨by rw [if_pos (show ownP u by omega)], rfl⟩ | exact ⟨by rw [if_neg (show ¬ ownP u by omega)], rfl⟩
  · skip
    have c_1 : ¬ (u = 36) := fun z9 => c_1 ((nI_eq (by omega) (by omega)).mpr z9)
    refine lv_iload_n hx hb dX0_isItsOwnSeven_6 rfl (lv_at hl 0 rfl) ?_
    refine lv_bipush (v := nI 64) hx hb dX0_isItsOwnSeven_7 (by decide) ?_
    refine lv_icmp_ne (tgt := 14) hx hb dX0_isItsOwnSeven_9 (by decide) (fun c_2 => ?_) (fun c_2 => ?_)
    · skip
      have c_2 : ¬ (u = 64) := fun z9 => c_2 ((nI_eq (by omega) (by omega)).mpr z9)
      refine lv_iload_n hx hb dX0_isItsOwnSeven_14 rfl (lv_at hl 0 rfl) ?_
      refine lv_bipush (v := nI 10) hx hb dX0_isItsOwnSeven_15 (by decide) ?_
      refine lv_icmp_eq (tgt := 50) hx hb dX0_isItsOwnSeven_17 (by decide) (fun c_3 => ?_) (fun c_3 => ?_)
      · skip
        have c_3 : u = 10 := (nI_eq (by omega) (by omega)).mp c_3
        refine lv_iconst (v := nI 1) hx hb dX0_isItsOwnSeven_50 (by decide) ?_
        refine lv_goto (tgt := 55) hx hb dX0_isItsOwnSeven_51 (by decide) ?_
        refine ah_zret (v := nI 1) hx hb hr hlocks hR hS dX0_isItsOwnSeven_55 (by decide) ?_
        first | (exfalso; omega) | exact ⟨by rw [if_pos (show ownP u by omega)], rfl⟩ | exact ⟨by rw [if_neg (show ¬ ownP u by omega)], rfl⟩
      · skip
        have c_3 : ¬ (u = 10) := fun z9 => c_3 ((nI_eq (by omega) (by omega)).mpr z9)
        refine lv_iload_n hx hb dX0_isItsOwnSeven_20 rfl (lv_at hl 0 rfl) ?_
        refine lv_bipush (v := nI 13) hx hb dX0_isItsOwnSeven_21 (by decide) ?_
        refine lv_icmp_eq (tgt := 50) hx hb dX0_isItsOwnSeven_23 (by decide) (fun c_4 => ?_) (fun c_4 => ?_)
        · skip
          have c_4 : u = 13 := (nI_eq (by omega) (by omega)).mp c_4
          refine lv_iconst (v := nI 1) hx hb dX0_isItsOwnSeven_50 (by decide) ?_
          refine lv_goto (tgt := 55) hx hb dX0_isItsOwnSeven_51 (by decide) ?_
          refine ah_zret (v := nI 1) hx hb hr hlocks hR hS dX0_isItsOwnSeven_55 (by decide) ?_
          first | (exfalso; omega) | exact ⟨by rw [if_pos (show ownP u by omega)], rfl⟩ | exact ⟨by rw [if_neg (show ¬ ownP u by omega)], rfl⟩
        · skip
          have c_4 : ¬ (u = 13) := fun z9 => c_4 ((nI_eq (by omega) (by omega)).mpr z9)
          refine lv_iload_n hx hb dX0_isItsOwnSeven_26 rfl (lv_at hl 0 rfl) ?_
          refine lv_bipush (v := nI 32) hx hb dX0_isItsOwnSeven_27 (by decide) ?_
          refine lv_icmp_lt (tgt := 38) hx hb dX0_isItsOwnSeven_29 (by decide) (fun c_5 => ?_) (fun c_5 => ?_)
          · skip
            have c_5 : u < 32 := (nI_ltI (by omega) (by omega)).mp c_5
            refine lv_iload_n hx hb dX0_isItsOwnSeven_38 rfl (lv_at hl 0 rfl) ?_
            refine lv_bipush (v := nI 97) hx hb dX0_isItsOwnSeven_39 (by decide) ?_
            refine lv_icmp_lt (tgt := 54) hx hb dX0_isItsOwnSeven_41 (by decide) (fun c_6 => ?_) (fun c_6 => ?_)
            · skip
              have c_6 : u < 97 := (nI_ltI (by omega) (by omega)).mp c_6
              refine lv_iconst (v := nI 0) hx hb dX0_isItsOwnSeven_54 (by decide) ?_
              refine ah_zret (v := nI 0) hx hb hr hlocks hR hS dX0_isItsOwnSeven_55 (by decide) ?_
              first | (exfalso; omega) | exact ⟨by rw [if_pos (show ownP u by omega)], rfl⟩ | exact ⟨by rw [if_neg (show ¬ ownP u by omega)], rfl⟩
            · skip
              have c_6 : ¬ (u < 97) := fun z9 => c_6 ((nI_ltI (by omega) (by omega)).mpr z9)
              refine lv_iload_n hx hb dX0_isItsOwnSeven_44 rfl (lv_at hl 0 rfl) ?_
              refine lv_bipush (v := nI 122) hx hb dX0_isItsOwnSeven_45 (by decide) ?_
              refine lv_icmp_gt (tgt := 54) hx hb dX0_isItsOwnSeven_47 (by decide) (fun c_7 => ?_) (fun c_7 => ?_)
              · skip
                have c_7 : 122 < u := (nI_ltI (by omega) (by omega)).mp c_7
                refine lv_iconst (v := nI 0) hx hb dX0_isItsOwnSeven_54 (by decide) ?_
                refine ah_zret (v := nI 0) hx hb hr hlocks hR hS dX0_isItsOwnSeven_55 (by decide) ?_
                first | (exfalso; omega) | exact ⟨by rw [if_pos (show ownP u by omega)], rfl⟩ | exact ⟨by rw [if_neg (show ¬ ownP u by omega)], rfl⟩
              · skip
                have c_7 : ¬ (122 < u) := fun z9 => c_7 ((nI_ltI (by omega) (by omega)).mpr z9)
                refine lv_iconst (v := nI 1) hx hb dX0_isItsOwnSeven_50 (by decide) ?_
                refine lv_goto (tgt := 55) hx hb dX0_isItsOwnSeven_51 (by decide) ?_
                refine ah_zret (v := nI 1) hx hb hr hlocks hR hS dX0_isItsOwnSeven_55 (by decide) ?_
                first | (exfalso; omega) | exact ⟨by rw [if_pos (show ownP u by omega)], rfl⟩ | exact ⟨by rw [if_neg (show ¬ ownP u by omega)], rfl⟩
          · skip
            have c_5 : ¬ (u < 32) := fun z9 => c_5 ((nI_ltI (by omega) (by omega)).mpr z9)
            refine lv_iload_n hx hb dX0_isItsOwnSeven_32 rfl (lv_at hl 0 rfl) ?_
            refine lv_bipush (v := nI 90) hx hb dX0_isItsOwnSeven_33 (by decide) ?_
            refine lv_icmp_le (tgt := 50) hx hb dX0_isItsOwnSeven_35 (by decide) (fun c_8 => ?_) (fun c_8 => ?_)
            · skip
              have c_8 : u ≤ 90 := (nI_leI (by omega) (by omega)).mp c_8
              refine lv_iconst (v := nI 1) hx hb dX0_isItsOwnSeven_50 (by decide) ?_
              refine lv_goto (tgt := 55) hx hb dX0_isItsOwnSeven_51 (by decide) ?_
              refine ah_zret (v := nI 1) hx hb hr hlocks hR hS dX0_isItsOwnSeven_55 (by decide) ?_
              first | (exfalso; omega) | exact ⟨by rw [if_pos (show ownP u by omega)], rfl⟩ | exact ⟨by rw [if_neg (show ¬ ownP u by omega)], rfl⟩
            · skip
              have c_8 : ¬ (u ≤ 90) := fun z9 => c_8 ((nI_leI (by omega) (by omega)).mpr z9)
              refine lv_iload_n hx hb dX0_isItsOwnSeven_38 rfl (lv_at hl 0 rfl) ?_
              refine lv_bipush (v := nI 97) hx hb dX0_isItsOwnSeven_39 (by decide) ?_
              refine lv_icmp_lt (tgt := 54) hx hb dX0_isItsOwnSeven_41 (by decide) (fun c_9 => ?_) (fun c_9 => ?_)
              · skip
                have c_9 : u < 97 := (nI_ltI (by omega) (by omega)).mp c_9
                refine lv_iconst (v := nI 0) hx hb dX0_isItsOwnSeven_54 (by decide) ?_
                refine ah_zret (v := nI 0) hx hb hr hlocks hR hS dX0_isItsOwnSeven_55 (by decide) ?_
                first | (exfalso; omega) | exact ⟨by rw [if_pos (show ownP u by omega)], rfl⟩ | exact ⟨by rw [if_neg (show ¬ ownP u by omega)], rfl⟩
              · skip
                have c_9 : ¬ (u < 97) := fun z9 => c_9 ((nI_ltI (by omega) (by omega)).mpr z9)
                refine lv_iload_n hx hb dX0_isItsOwnSeven_44 rfl (lv_at hl 0 rfl) ?_
                refine lv_bipush (v := nI 122) hx hb dX0_isItsOwnSeven_45 (by decide) ?_
                refine lv_icmp_gt (tgt := 54) hx hb dX0_isItsOwnSeven_47 (by decide) (fun c_10 => ?_) (fun c_10 => ?_)
                · skip
                  have c_10 : 122 < u := (nI_ltI (by omega) (by omega)).mp c_10
                  refine lv_iconst (v := nI 0) hx hb dX0_isItsOwnSeven_54 (by decide) ?_
                  refine ah_zret (v := nI 0) hx hb hr hlocks hR hS dX0_isItsOwnSeven_55 (by decide) ?_
                  first | (exfalso; omega) | exact ⟨by rw [if_pos (show ownP u by omega)], rfl⟩ | exact ⟨by rw [if_neg (show ¬ ownP u by omega)], rfl⟩
                · skip
                  have c_10 : ¬ (122 < u) := fun z9 => c_10 ((nI_ltI (by omega) (by omega)).mpr z9)
                  refine lv_iconst (v := nI 1) hx hb dX0_isItsOwnSeven_50 (by decide) ?_
                  refine lv_goto (tgt := 55) hx hb dX0_isItsOwnSeven_51 (by decide) ?_
                  refine ah_zret (v := nI 1) hx hb hr hlocks hR hS dX0_isItsOwnSeven_55 (by decide) ?_
                  first | (exfalso; omega) | exact ⟨by rw [if_pos (show ownP u by omega)], rfl⟩ | exact ⟨by rw [if_neg (show ¬ ownP u by omega)], rfl⟩
    · skip
      have c_2 : u = 64 := (nI_eq (by omega) (by omega)).mp c_2
      refine lv_iconst (v := nI 0) hx hb dX0_isItsOwnSeven_12 (by decide) ?_
      refine ah_zret (v := nI 0) hx hb hr hlocks hR hS dX0_isItsOwnSeven_13 (by decide) ?_
      first | (exfalso; omega) | exact ⟨by rw [if_pos (show ownP u by omega)], rfl⟩ | exact ⟨by rw [if_neg (show ¬ ownP u by omega)], rfl⟩

set_option maxHeartbeats 4000000 in
set_option maxRecDepth 100000 in
theorem c_partner (l : Launch) (G : ah_G) (h : ah_H) (kx ky n : Nat) (hx4 : kx < 4) (hy4 : ky < 4) (ex : (tab kx).length = n) (ey : (tab ky).length = n) (hn : n < 100) (x : Int32) : Met l yX0_partner wsX0_partner ({ frames := 0, cells := 0, slots := 0, locals := 0 }) (ah_Pc G [.ref (G.2.2.2 kx), .ref (G.2.2.2 ky), .int x] h) (ah_Qi G (fun v h' => v = ptn (tabF kx) (tabF ky) n 0 x ∧ h' = h)) 0 0 (ah_A G) := by
  refine ah_ofW (cc := cX0_partner) (maxL := 4) (ret := (some .int)) (by decide) rfl (Nat.le_of_ble_eq_true rfl) ?_
  intro p e s m below meth c ls hx hb hr hml hown hlocks hname hts hE hR hS hl
  have hown : s.vm.findClass RX0 = some m.cls := hown
  have hl : lv_has ls 4 [(0, .ref (G.2.2.2 kx)), (1, .ref (G.2.2.2 ky)), (2, .int x)] := hl
  have tx := hE.tab kx hx4
  have ty := hE.tab ky hy4
  rw [ex] at tx
  rw [ey] at ty
  refine lv_iconst (v := nI 0) hx hb dX0_partner_0 (by decide) ?_
  refine lv_istore_n (lv' := [(3, .int (nI 0)), (0, .ref (G.2.2.2 kx)), (1, .ref (G.2.2.2 ky)), (2, .int x)]) hx hb dX0_partner_1 rfl hl (by decide) rfl (fun ls hl => ?_)
  have L2 : ∀ (N2 : Nat) (k : Nat) (H : Heap) (locs : List Loc) (ls : Array Slot), n - k < N2 → (k ≤ n) → (ptn (tabF kx) (tabF ky) (n - k) k x = ptn (tabF kx) (tabF ky) n 0 x) → ah_R G h H → va_S (ah_A G) s.heap H locs → lv_has ls 4 [(3, .int (nI k)), (0, .ref (G.2.2.2 kx)), (1, .ref (G.2.2.2 ky)), (2, .int x)] → W p l e ({ frames := 0, cells := 0, slots := 0, locals := 0 }) s m ([.ref (G.2.2.2 kx), .ref (G.2.2.2 ky), .int x] : List Value).toArray below meth c H locs 0 0 (MQ below (ah_Qi G (fun v h' => v = ptn (tabF kx) (tabF ky) n 0 x ∧ h' = h)) ([.ref (G.2.2.2 kx), .ref (G.2.2.2 ky), .int x] : List Value).toArray s 0 0 (ah_A G)) (F0 m 2 ls []) := by
    intro N2
    induction N2 with
    | zero => intro k  H locs ls hN; exact absurd hN (Nat.not_lt_zero _)
    | succ N2 ih2 =>
      intro k  H locs ls hN2 hk ek hR hS hl
      refine lv_iload_n hx hb dX0_partner_2 rfl (lv_at hl 0 rfl) ?_
      refine lv_aload_n hx hb dX0_partner_3 rfl (lv_at hl 1 rfl) ?_
      refine va_tlen (v := nI n) hx hb tx hS rfl dX0_partner_4 ?_
      refine lv_icmp_ge (tgt := 31) hx hb dX0_partner_5 (by decide) (fun c_1 => ?_) (fun c_1 => ?_)
      · skip
        have c_1 : n ≤ k := (nI_leI (by omega) (by omega)).mp c_1
        refine lv_iconst (v := (-1)) hx hb dX0_partner_31 (by decide) ?_
        refine ah_iret (v := (-1)) hx hb hr hlocks hR hS dX0_partner_32 ?_
        exact ⟨by rw [← ek, show n - k = 0 by omega]; rfl, rfl⟩
      · skip
        have c_1 : ¬ (n ≤ k) := fun z9 => c_1 ((nI_leI (by omega) (by omega)).mpr z9)
        refine lv_iload_n hx hb dX0_partner_8 rfl (lv_at hl 0 rfl) ?_
        refine lv_aload_n hx hb dX0_partner_9 rfl (lv_at hl 2 rfl) ?_
        refine va_tlen (v := nI n) hx hb ty hS rfl dX0_partner_10 ?_
        refine lv_icmp_ge (tgt := 31) hx hb dX0_partner_11 (by decide) (fun c_2 => ?_) (fun c_2 => ?_)
        · skip
          have c_2 : n ≤ k := (nI_leI (by omega) (by omega)).mp c_2
          refine lv_iconst (v := (-1)) hx hb dX0_partner_31 (by decide) ?_
          refine ah_iret (v := (-1)) hx hb hr hlocks hR hS dX0_partner_32 ?_
          exact ⟨by rw [← ek, show n - k = 0 by omega]; rfl, rfl⟩
        · skip
          have c_2 : ¬ (n ≤ k) := fun z9 => c_2 ((nI_leI (by omega) (by omega)).mpr z9)
          refine lv_aload_n hx hb dX0_partner_14 rfl (lv_at hl 1 rfl) ?_
          refine lv_iload_n hx hb dX0_partner_15 rfl (lv_at hl 0 rfl) ?_
          refine va_ti (v := .int ((tab kx).getD k 0)) hx hb tx hS (vp_in_nI (by omega) (by omega)) (by rw [nI_clamp (by omega)]) dX0_partner_16 ?_
          refine lv_iload_n hx hb dX0_partner_17 rfl (lv_at hl 3 rfl) ?_
          refine lv_icmp_ne (tgt := 25) hx hb dX0_partner_18 (by decide) (fun c_3 => ?_) (fun c_3 => ?_)
          · skip
            refine lv_iinc (v := nI (k + 1)) (lv' := [(3, .int (nI (k + 1))), (0, .ref (G.2.2.2 kx)), (1, .ref (G.2.2.2 ky)), (2, .int x)]) hx hb dX0_partner_25 hl (k := 0) rfl (show nI k + Int32.ofInt 1 = nI (k + 1) from nI_add _ 1) (by decide) rfl (fun ls hl => ?_)
            refine lv_goto (tgt := 2) hx hb dX0_partner_28 (by decide) ?_
            exact ih2  (k + 1) _ _ ls (by omega) (by omega) (by rw [← ek, show n - k = n - (k + 1) + 1 by omega]; exact (if_neg c_3).symm) hR hS (lv_sub hl [0, 1, 2, 3] rfl)
          · skip
            refine lv_aload_n hx hb dX0_partner_21 rfl (lv_at hl 2 rfl) ?_
            refine lv_iload_n hx hb dX0_partner_22 rfl (lv_at hl 0 rfl) ?_
            refine va_ti (v := .int ((tab ky).getD k 0)) hx hb ty hS (vp_in_nI (by omega) (by omega)) (by rw [nI_clamp (by omega)]) dX0_partner_23 ?_
            refine ah_iret (v := (tab ky).getD k 0) hx hb hr hlocks hR hS dX0_partner_24 ?_
            exact ⟨by rw [← ek, show n - k = n - (k + 1) + 1 by omega]; exact (if_pos c_3).symm, rfl⟩
  exact L2 ((n - 0) + 1) 0 _ _ ls (by omega) (by omega) (by rfl) hR hS (lv_sub hl [0, 1, 2, 3] rfl)

set_option maxHeartbeats 4000000 in
set_option maxRecDepth 100000 in
theorem c_plainSeven (l : Launch) (G : ah_G) (h : ah_H) (u : Nat) (hu : u < 2 ^ 31) : Met l yX0_plainSeven wsX0_plainSeven ({ frames := 1, cells := 0, slots := 0, locals := 23 }) (ah_Pc G [.int (nI u)] h) (ah_Qi G (fun v h' => v = plainSv u ∧ h' = h)) 0 0 (ah_A G) := by
  refine ah_ofW (cc := cX0_plainSeven) (maxL := 1) (ret := (some .int)) (by decide) rfl (Nat.le_of_ble_eq_true rfl) ?_
  intro p e s m below meth c ls hx hb hr hml hown hlocks hname hts hE hR hS hl
  have hown : s.vm.findClass RX0 = some m.cls := hown
  have hl : lv_has ls 1 [(0, .int (nI u))] := hl
  have k22 := hts (.fieldLink RX0 22 "TextParts$Alphabet" "OTHER_UNITS" "[I") (by decide +kernel)
  have k26 := hts (.fieldLink RX0 26 "TextParts$Alphabet" "OTHER_SEVENS" "[I") (by decide +kernel)
  obtain ⟨-, -, -, -, z1, z2, z3, z4⟩ := id hE
  refine lv_iload_n hx hb dX0_plainSeven_0 rfl (lv_at hl 0 rfl) ?_
  refine ah_calli (va_runS (As := [.int (nI u)]) (rest := []) ⟨hx, hb, hml, hown, hts⟩ (c_own l G h u (by omega)) (va_cwS 1 hts gX0_plainSeven_X0_isItsOwnSeven rfl rfl rfl (by decide +kernel) ⟨Nat.le_of_ble_eq_true rfl, Nat.le_of_ble_eq_true rfl⟩) (ah_preS hE hR hS) rfl rfl hl.1 rfl (lv_room (Nat.le_of_ble_eq_true rfl)) dX0_plainSeven_1 ⟨Nat.le_of_ble_eq_true rfl, Nat.le_of_ble_eq_true rfl⟩) hS (fun r_3 h_1 H locs p_2 hR hS => ?_)
  obtain ⟨e_4, e_5⟩ := p_2
  rw [e_5] at hR
  refine ah_toi e_4 ?_
  have h01 : (if ownP u then 1 else 0) < 2 ^ 31 := by split <;> omega
  refine lv_if_eq (tgt := 11) hx hb dX0_plainSeven_4 (by decide) (fun c_6 => ?_) (fun c_6 => ?_)
  · skip
    have c_6 : (if ownP u then 1 else 0) = 0 := (zi_eq (by omega)).mp c_6
    have hno : ¬ ownP u := fun z9 => by rw [if_pos z9] at c_6; omega
    refine va_gets hx hb z1.1 hS hown k22 (fun _ h9 => h9) dX0_plainSeven_11 ?_
    refine va_gets hx hb z2.1 hS hown k26 (fun _ h9 => h9) dX0_plainSeven_14 ?_
    refine lv_iload_n hx hb dX0_plainSeven_17 rfl (lv_at hl 0 rfl) ?_
    refine ah_calli (va_runS (As := [.ref (G.2.2.2 0), .ref (G.2.2.2 1), .int (nI u)]) (rest := []) ⟨hx, hb, hml, hown, hts⟩ (c_partner l G h 0 1 11 (by decide) (by decide) rfl rfl (by decide) (nI u)) (va_cwS 3 hts gX0_plainSeven_X0_partner rfl rfl rfl (by decide +kernel) ⟨Nat.le_of_ble_eq_true rfl, Nat.le_of_ble_eq_true rfl⟩) (ah_preS hE hR hS) rfl rfl hl.1 rfl (lv_room (Nat.le_of_ble_eq_true rfl)) dX0_plainSeven_18 ⟨Nat.le_of_ble_eq_true rfl, Nat.le_of_ble_eq_true rfl⟩) hS (fun r_9 h_7 H locs p_8 hR hS => ?_)
    obtain ⟨e_10, e_11⟩ := p_8
    rw [e_11] at hR
    refine ah_toi e_10 ?_
    refine ah_iret (v := ptn (tabF 0) (tabF 1) 11 0 (nI u)) hx hb hr hlocks hR hS dX0_plainSeven_21 ?_
    exact ⟨(if_neg hno).symm, rfl⟩
  · skip
    have c_6 : ¬ ((if ownP u then 1 else 0) = 0) := fun z9 => c_6 ((zi_eq (by omega)).mpr z9)
    have hyes : ownP u := Classical.byContradiction (fun z9 => by rw [if_neg z9] at c_6; omega)
    refine lv_iload_n hx hb dX0_plainSeven_7 rfl (lv_at hl 0 rfl) ?_
    refine lv_goto (tgt := 21) hx hb dX0_plainSeven_8 (by decide) ?_
    refine ah_iret (v := nI u) hx hb hr hlocks hR hS dX0_plainSeven_21 ?_
    exact ⟨(if_pos hyes).symm, rfl⟩

set_option maxHeartbeats 4000000 in
set_option maxRecDepth 100000 in
theorem c_escapedSeven (l : Launch) (G : ah_G) (h : ah_H) (u : Nat) (hu : u < 2 ^ 31) : Met l yX0_escapedSeven wsX0_escapedSeven ({ frames := 1, cells := 0, slots := 0, locals := 23 }) (ah_Pc G [.int (nI u)] h) (ah_Qi G (fun v h' => v = escSv u ∧ h' = h)) 0 0 (ah_A G) := by
  refine ah_ofW (cc := cX0_escapedSeven) (maxL := 1) (ret := (some .int)) (by decide) rfl (Nat.le_of_ble_eq_true rfl) ?_
  intro p e s m below meth c ls hx hb hr hml hown hlocks hname hts hE hR hS hl
  have hown : s.vm.findClass RX0 = some m.cls := hown
  have hl : lv_has ls 1 [(0, .int (nI u))] := hl
  have k33 := hts (.fieldLink RX0 33 "TextParts$Alphabet" "ESCAPED_UNITS" "[I") (by decide +kernel)
  have k36 := hts (.fieldLink RX0 36 "TextParts$Alphabet" "ESCAPED_SEVENS" "[I") (by decide +kernel)
  obtain ⟨-, -, -, -, z1, z2, z3, z4⟩ := id hE
  refine va_gets hx hb z3.1 hS hown k33 (fun _ h9 => h9) dX0_escapedSeven_0 ?_
  refine va_gets hx hb z4.1 hS hown k36 (fun _ h9 => h9) dX0_escapedSeven_3 ?_
  refine lv_iload_n hx hb dX0_escapedSeven_6 rfl (lv_at hl 0 rfl) ?_
  refine ah_calli (va_runS (As := [.ref (G.2.2.2 2), .ref (G.2.2.2 3), .int (nI u)]) (rest := []) ⟨hx, hb, hml, hown, hts⟩ (c_partner l G h 2 3 9 (by decide) (by decide) rfl rfl (by decide) (nI u)) (va_cwS 3 hts gX0_escapedSeven_X0_partner rfl rfl rfl (by decide +kernel) ⟨Nat.le_of_ble_eq_true rfl, Nat.le_of_ble_eq_true rfl⟩) (ah_preS hE hR hS) rfl rfl hl.1 rfl (lv_room (Nat.le_of_ble_eq_true rfl)) dX0_escapedSeven_7 ⟨Nat.le_of_ble_eq_true rfl, Nat.le_of_ble_eq_true rfl⟩) hS (fun r_3 h_1 H locs p_2 hR hS => ?_)
  obtain ⟨e_4, e_5⟩ := p_2
  rw [e_5] at hR
  refine ah_toi e_4 ?_
  refine ah_iret (v := ptn (tabF 2) (tabF 3) 9 0 (nI u)) hx hb hr hlocks hR hS dX0_escapedSeven_10 ?_
  exact ⟨rfl, rfl⟩

set_option maxHeartbeats 4000000 in
set_option maxRecDepth 100000 in
theorem c_sevensFor (l : Launch) (G : ah_G) (h : ah_H) (u : Nat) (hu : u < 2 ^ 31) : Met l yX0_sevensFor wsX0_sevensFor ({ frames := 2, cells := 0, slots := 0, locals := 43 }) (ah_Pc G [.int (nI u)] h) (ah_Qi G (fun v h' => v = nI (svFor u) ∧ h' = h)) 0 0 (ah_A G) := by
  refine ah_ofW (cc := cX0_sevensFor) (maxL := 1) (ret := (some .int)) (by decide) rfl (Nat.le_of_ble_eq_true rfl) ?_
  intro p e s m below meth c ls hx hb hr hml hown hlocks hname hts hE hR hS hl
  have hown : s.vm.findClass RX0 = some m.cls := hown
  have hl : lv_has ls 1 [(0, .int (nI u))] := hl
  refine lv_iload_n hx hb dX0_sevensFor_0 rfl (lv_at hl 0 rfl) ?_
  refine ah_calli (va_runS (As := [.int (nI u)]) (rest := []) ⟨hx, hb, hml, hown, hts⟩ (c_plainSeven l G h u hu) (va_cwS 1 hts gX0_sevensFor_X0_plainSeven rfl rfl rfl (by decide +kernel) ⟨Nat.le_of_ble_eq_true rfl, Nat.le_of_ble_eq_true rfl⟩) (ah_preS hE hR hS) rfl rfl hl.1 rfl (lv_room (Nat.le_of_ble_eq_true rfl)) dX0_sevensFor_1 ⟨Nat.le_of_ble_eq_true rfl, Nat.le_of_ble_eq_true rfl⟩) hS (fun r_3 h_1 H locs p_2 hR hS => ?_)
  obtain ⟨e_4, e_5⟩ := p_2
  rw [e_5] at hR
  refine ah_toi e_4 ?_
  refine lv_iconst (v := (-1)) hx hb dX0_sevensFor_4 (by decide) ?_
  refine lv_icmp_eq (tgt := 10) hx hb dX0_sevensFor_5 (by decide) (fun c_6 => ?_) (fun c_6 => ?_)
  · skip
    refine lv_iload_n hx hb dX0_sevensFor_10 rfl (lv_at hl 0 rfl) ?_
    refine ah_calli (va_runS (As := [.int (nI u)]) (rest := []) ⟨hx, hb, hml, hown, hts⟩ (c_escapedSeven l G h u hu) (va_cwS 1 hts gX0_sevensFor_X0_escapedSeven rfl rfl rfl (by decide +kernel) ⟨Nat.le_of_ble_eq_true rfl, Nat.le_of_ble_eq_true rfl⟩) (ah_preS hE hR hS) rfl rfl hl.1 rfl (lv_room (Nat.le_of_ble_eq_true rfl)) dX0_sevensFor_11 ⟨Nat.le_of_ble_eq_true rfl, Nat.le_of_ble_eq_true rfl⟩) hS (fun r_9 h_7 H locs p_8 hR hS => ?_)
    obtain ⟨e_10, e_11⟩ := p_8
    rw [e_11] at hR
    refine ah_toi e_10 ?_
    refine lv_iconst (v := (-1)) hx hb dX0_sevensFor_14 (by decide) ?_
    refine lv_icmp_eq (tgt := 22) hx hb dX0_sevensFor_15 (by decide) (fun c_12 => ?_) (fun c_12 => ?_)
    · skip
      refine lv_iconst (v := nI 0) hx hb dX0_sevensFor_22 (by decide) ?_
      refine ah_iret (v := nI 0) hx hb hr hlocks hR hS dX0_sevensFor_23 ?_
      exact ⟨by unfold svFor; rw [if_pos c_6, if_pos c_12], rfl⟩
    · skip
      refine lv_iconst (v := nI 2) hx hb dX0_sevensFor_18 (by decide) ?_
      refine lv_goto (tgt := 23) hx hb dX0_sevensFor_19 (by decide) ?_
      refine ah_iret (v := nI 2) hx hb hr hlocks hR hS dX0_sevensFor_23 ?_
      exact ⟨by unfold svFor; rw [if_pos c_6, if_neg c_12], rfl⟩
  · skip
    refine lv_iconst (v := nI 1) hx hb dX0_sevensFor_8 (by decide) ?_
    refine ah_iret (v := nI 1) hx hb hr hlocks hR hS dX0_sevensFor_9 ?_
    exact ⟨by unfold svFor; rw [if_neg c_6], rfl⟩

set_option maxHeartbeats 4000000 in
set_option maxRecDepth 100000 in
theorem c_plainUnit (l : Launch) (G : ah_G) (h : ah_H) (u : Nat) (hu : u < 2 ^ 31) : Met l yX0_plainUnit wsX0_plainUnit ({ frames := 1, cells := 0, slots := 0, locals := 23 }) (ah_Pc G [.int (nI u)] h) (ah_Qi G (fun v h' => v = plainU u ∧ h' = h)) 0 0 (ah_A G) := by
  refine ah_ofW (cc := cX0_plainUnit) (maxL := 2) (ret := (some .int)) (by decide) rfl (Nat.le_of_ble_eq_true rfl) ?_
  intro p e s m below meth c ls hx hb hr hml hown hlocks hname hts hE hR hS hl
  have hown : s.vm.findClass RX0 = some m.cls := hown
  have hl : lv_has ls 2 [(0, .int (nI u))] := hl
  have k26 := hts (.fieldLink RX0 26 "TextParts$Alphabet" "OTHER_SEVENS" "[I") (by decide +kernel)
  have k22 := hts (.fieldLink RX0 22 "TextParts$Alphabet" "OTHER_UNITS" "[I") (by decide +kernel)
  obtain ⟨-, -, -, -, z1, z2, z3, z4⟩ := id hE
  refine lv_iload_n hx hb dX0_plainUnit_0 rfl (lv_at hl 0 rfl) ?_
  refine ah_calli (va_runS (As := [.int (nI u)]) (rest := []) ⟨hx, hb, hml, hown, hts⟩ (c_own l G h u (by omega)) (va_cwS 1 hts gX0_plainUnit_X0_isItsOwnSeven rfl rfl rfl (by decide +kernel) ⟨Nat.le_of_ble_eq_true rfl, Nat.le_of_ble_eq_true rfl⟩) (ah_preS hE hR hS) rfl rfl hl.1 rfl (lv_room (Nat.le_of_ble_eq_true rfl)) dX0_plainUnit_1 ⟨Nat.le_of_ble_eq_true rfl, Nat.le_of_ble_eq_true rfl⟩) hS (fun r_3 h_1 H locs p_2 hR hS => ?_)
  obtain ⟨e_4, e_5⟩ := p_2
  rw [e_5] at hR
  refine ah_toi e_4 ?_
  have h01 : (if ownP u then 1 else 0) < 2 ^ 31 := by split <;> omega
  refine lv_if_eq (tgt := 11) hx hb dX0_plainUnit_4 (by decide) (fun c_6 => ?_) (fun c_6 => ?_)
  · skip
    have c_6 : (if ownP u then 1 else 0) = 0 := (zi_eq (by omega)).mp c_6
    have hno : ¬ ownP u := fun z9 => by rw [if_pos z9] at c_6; omega
    refine va_gets hx hb z2.1 hS hown k26 (fun _ h9 => h9) dX0_plainUnit_11 ?_
    refine va_gets hx hb z1.1 hS hown k22 (fun _ h9 => h9) dX0_plainUnit_14 ?_
    refine lv_iload_n hx hb dX0_plainUnit_17 rfl (lv_at hl 0 rfl) ?_
    refine ah_calli (va_runS (As := [.ref (G.2.2.2 1), .ref (G.2.2.2 0), .int (nI u)]) (rest := []) ⟨hx, hb, hml, hown, hts⟩ (c_partner l G h 1 0 11 (by decide) (by decide) rfl rfl (by decide) (nI u)) (va_cwS 3 hts gX0_plainUnit_X0_partner rfl rfl rfl (by decide +kernel) ⟨Nat.le_of_ble_eq_true rfl, Nat.le_of_ble_eq_true rfl⟩) (ah_preS hE hR hS) rfl rfl hl.1 rfl (lv_room (Nat.le_of_ble_eq_true rfl)) dX0_plainUnit_18 ⟨Nat.le_of_ble_eq_true rfl, Nat.le_of_ble_eq_true rfl⟩) hS (fun r_9 h_7 H locs p_8 hR hS => ?_)
    obtain ⟨e_10, e_11⟩ := p_8
    rw [e_11] at hR
    refine ah_toi e_10 ?_
    refine lv_istore_n (lv' := [(1, .int (ptn (tabF 1) (tabF 0) 11 0 (nI u))), (0, .int (nI u))]) hx hb dX0_plainUnit_21 rfl hl (by decide) rfl (fun ls hl => ?_)
    refine lv_iload_n hx hb dX0_plainUnit_22 rfl (lv_at hl 0 rfl) ?_
    refine lv_iconst (v := (-1)) hx hb dX0_plainUnit_23 (by decide) ?_
    refine lv_icmp_ne (tgt := 32) hx hb dX0_plainUnit_24 (by decide) (fun c_12 => ?_) (fun c_12 => ?_)
    · skip
      refine lv_iload_n hx hb dX0_plainUnit_32 rfl (lv_at hl 0 rfl) ?_
      refine ah_iret (v := ptn (tabF 1) (tabF 0) 11 0 (nI u)) hx hb hr hlocks hR hS dX0_plainUnit_33 ?_
      exact ⟨by unfold plainU; rw [if_neg hno, if_neg c_12], rfl⟩
    · skip
      refine lv_bipush (v := nI 63) hx hb dX0_plainUnit_27 (by decide) ?_
      refine lv_goto (tgt := 33) hx hb dX0_plainUnit_29 (by decide) ?_
      refine ah_iret (v := nI 63) hx hb hr hlocks hR hS dX0_plainUnit_33 ?_
      exact ⟨by unfold plainU; rw [if_neg hno, if_pos c_12], rfl⟩
  · skip
    have c_6 : ¬ ((if ownP u then 1 else 0) = 0) := fun z9 => c_6 ((zi_eq (by omega)).mpr z9)
    have hyes : ownP u := Classical.byContradiction (fun z9 => by rw [if_neg z9] at c_6; omega)
    refine lv_iload_n hx hb dX0_plainUnit_7 rfl (lv_at hl 0 rfl) ?_
    refine lv_goto (tgt := 21) hx hb dX0_plainUnit_8 (by decide) ?_
    refine lv_istore_n (lv' := [(1, .int (nI u)), (0, .int (nI u))]) hx hb dX0_plainUnit_21 rfl hl (by decide) rfl (fun ls hl => ?_)
    refine lv_iload_n hx hb dX0_plainUnit_22 rfl (lv_at hl 0 rfl) ?_
    refine lv_iconst (v := (-1)) hx hb dX0_plainUnit_23 (by decide) ?_
    refine lv_icmp_ne (tgt := 32) hx hb dX0_plainUnit_24 (by decide) (fun c_13 => ?_) (fun c_13 => ?_)
    · skip
      refine lv_iload_n hx hb dX0_plainUnit_32 rfl (lv_at hl 0 rfl) ?_
      refine ah_iret (v := nI u) hx hb hr hlocks hR hS dX0_plainUnit_33 ?_
      exact ⟨by unfold plainU; rw [if_pos hyes, if_neg c_13], rfl⟩
    · skip
      refine lv_bipush (v := nI 63) hx hb dX0_plainUnit_27 (by decide) ?_
      refine lv_goto (tgt := 33) hx hb dX0_plainUnit_29 (by decide) ?_
      refine ah_iret (v := nI 63) hx hb hr hlocks hR hS dX0_plainUnit_33 ?_
      exact ⟨by unfold plainU; rw [if_pos hyes, if_pos c_13], rfl⟩

set_option maxHeartbeats 4000000 in
set_option maxRecDepth 100000 in
theorem c_escapedUnit (l : Launch) (G : ah_G) (h : ah_H) (u : Nat) (hu : u < 2 ^ 31) : Met l yX0_escapedUnit wsX0_escapedUnit ({ frames := 2, cells := 0, slots := 0, locals := 44 }) (ah_Pc G [.int (nI u)] h) (ah_Qi G (fun v h' => v = escU u ∧ h' = h)) 0 0 (ah_A G) := by
  refine ah_ofW (cc := cX0_escapedUnit) (maxL := 2) (ret := (some .int)) (by decide) rfl (Nat.le_of_ble_eq_true rfl) ?_
  intro p e s m below meth c ls hx hb hr hml hown hlocks hname hts hE hR hS hl
  have hown : s.vm.findClass RX0 = some m.cls := hown
  have hl : lv_has ls 2 [(0, .int (nI u))] := hl
  have k36 := hts (.fieldLink RX0 36 "TextParts$Alphabet" "ESCAPED_SEVENS" "[I") (by decide +kernel)
  have k33 := hts (.fieldLink RX0 33 "TextParts$Alphabet" "ESCAPED_UNITS" "[I") (by decide +kernel)
  obtain ⟨-, -, -, -, z1, z2, z3, z4⟩ := id hE
  refine lv_iload_n hx hb dX0_escapedUnit_0 rfl (lv_at hl 0 rfl) ?_
  refine lv_iconst (v := (-1)) hx hb dX0_escapedUnit_1 (by decide) ?_
  refine lv_icmp_ne (tgt := 8) hx hb dX0_escapedUnit_2 (by decide) (fun c_1 => ?_) (fun c_1 => ?_)
  · skip
    refine va_gets hx hb z4.1 hS hown k36 (fun _ h9 => h9) dX0_escapedUnit_8 ?_
    refine va_gets hx hb z3.1 hS hown k33 (fun _ h9 => h9) dX0_escapedUnit_11 ?_
    refine lv_iload_n hx hb dX0_escapedUnit_14 rfl (lv_at hl 0 rfl) ?_
    refine ah_calli (va_runS (As := [.ref (G.2.2.2 3), .ref (G.2.2.2 2), .int (nI u)]) (rest := []) ⟨hx, hb, hml, hown, hts⟩ (c_partner l G h 3 2 9 (by decide) (by decide) rfl rfl (by decide) (nI u)) (va_cwS 3 hts gX0_escapedUnit_X0_partner rfl rfl rfl (by decide +kernel) ⟨Nat.le_of_ble_eq_true rfl, Nat.le_of_ble_eq_true rfl⟩) (ah_preS hE hR hS) rfl rfl hl.1 rfl (lv_room (Nat.le_of_ble_eq_true rfl)) dX0_escapedUnit_15 ⟨Nat.le_of_ble_eq_true rfl, Nat.le_of_ble_eq_true rfl⟩) hS (fun r_4 h_2 H locs p_3 hR hS => ?_)
    obtain ⟨e_5, e_6⟩ := p_3
    rw [e_6] at hR
    refine ah_toi e_5 ?_
    refine lv_istore_n (lv' := [(1, .int (ptn (tabF 3) (tabF 2) 9 0 (nI u))), (0, .int (nI u))]) hx hb dX0_escapedUnit_18 rfl hl (by decide) rfl (fun ls hl => ?_)
    refine lv_iload_n hx hb dX0_escapedUnit_19 rfl (lv_at hl 0 rfl) ?_
    refine lv_iconst (v := (-1)) hx hb dX0_escapedUnit_20 (by decide) ?_
    refine lv_icmp_ne (tgt := 31) hx hb dX0_escapedUnit_21 (by decide) (fun c_7 => ?_) (fun c_7 => ?_)
    · skip
      refine lv_iload_n hx hb dX0_escapedUnit_31 rfl (lv_at hl 0 rfl) ?_
      refine ah_iret (v := ptn (tabF 3) (tabF 2) 9 0 (nI u)) hx hb hr hlocks hR hS dX0_escapedUnit_32 ?_
      exact ⟨by unfold escU; rw [if_neg c_7], rfl⟩
    · skip
      refine lv_iload_n hx hb dX0_escapedUnit_24 rfl (lv_at hl 1 rfl) ?_
      refine ah_calli (va_runS (As := [.int (nI u)]) (rest := []) ⟨hx, hb, hml, hown, hts⟩ (c_plainUnit l G h u hu) (va_cwS 1 hts gX0_escapedUnit_X0_plainUnit rfl rfl rfl (by decide +kernel) ⟨Nat.le_of_ble_eq_true rfl, Nat.le_of_ble_eq_true rfl⟩) (ah_preS hE hR hS) rfl rfl hl.1 rfl (lv_room (Nat.le_of_ble_eq_true rfl)) dX0_escapedUnit_25 ⟨Nat.le_of_ble_eq_true rfl, Nat.le_of_ble_eq_true rfl⟩) hS (fun r_10 h_8 H locs p_9 hR hS => ?_)
      obtain ⟨e_11, e_12⟩ := p_9
      rw [e_12] at hR
      refine ah_toi e_11 ?_
      refine lv_goto (tgt := 32) hx hb dX0_escapedUnit_28 (by decide) ?_
      refine ah_iret (v := plainU u) hx hb hr hlocks hR hS dX0_escapedUnit_32 ?_
      exact ⟨by unfold escU; rw [if_pos c_7], rfl⟩
  · skip
    exact absurd c_1 (zi_ne (by omega))

set_option maxHeartbeats 4000000 in
set_option maxRecDepth 100000 in
theorem c_escapedUnit0 (l : Launch) (G : ah_G) (h : ah_H)  : Met l yX0_escapedUnit wsX0_escapedUnit ({ frames := 2, cells := 0, slots := 0, locals := 44 }) (ah_Pc G [.int (-1)] h) (ah_Qi G (fun v h' => v = nI 32 ∧ h' = h)) 0 0 (ah_A G) := by
  refine ah_ofW (cc := cX0_escapedUnit) (maxL := 2) (ret := (some .int)) (by decide) rfl (Nat.le_of_ble_eq_true rfl) ?_
  intro p e s m below meth c ls hx hb hr hml hown hlocks hname hts hE hR hS hl
  have hown : s.vm.findClass RX0 = some m.cls := hown
  have hl : lv_has ls 2 [(0, .int (-1))] := hl
  refine lv_iload_n hx hb dX0_escapedUnit_0 rfl (lv_at hl 0 rfl) ?_
  refine lv_iconst (v := (-1)) hx hb dX0_escapedUnit_1 (by decide) ?_
  refine lv_icmp_ne (tgt := 8) hx hb dX0_escapedUnit_2 (by decide) (fun c_1 => ?_) (fun c_1 => ?_)
  · skip
    exact absurd rfl c_1
  · skip
    refine lv_bipush (v := nI 32) hx hb dX0_escapedUnit_5 (by decide) ?_
    refine ah_iret (v := nI 32) hx hb hr hlocks hR hS dX0_escapedUnit_7 ?_
    exact ⟨rfl, rfl⟩
end
section
/-! ===== TextParts$Text ===== -/
theorem svFor_le (u : Nat) : svFor u ≤ 2 := by
  unfold svFor; split
  · split <;> omega
  · omega
/-- the sevens of m units from a on -/
def sumS (f : Nat → Nat) (a : Nat) : Nat → Nat
  | 0 => 0
  | m + 1 => sumS f a m + svFor (f (a + m))
theorem sumS_le (f : Nat → Nat) (a m : Nat) : sumS f a m ≤ 2 * m := by
  induction m with
  | zero => exact Nat.le_refl 0
  | succ m ih => have := svFor_le (f (a + m)); simp only [sumS]; omega
/-- where a part by the alphabet ends: fuel, place, what is left -/
def sEnd (f : Nat → Nat) (n : Nat) : Nat → Nat → Nat → Nat
  | 0, i, _ => i
  | m + 1, i, q => if n ≤ i then n else if q < svFor (f i) then i else sEnd f n m (i + 1) (q - svFor (f i))
theorem sEnd_le {f : Nat → Nat} {n : Nat} : ∀ (m i q : Nat), i ≤ n → sEnd f n m i q ≤ n
  | 0, _, _, h => h
  | m + 1, i, q, h => by
    unfold sEnd
    split
    · exact Nat.le_refl n
    · split
      · exact h
      · exact sEnd_le m (i + 1) _ (by omega)
abbrev hiP (u : Nat) : Prop := 55296 ≤ u ∧ u ≤ 56319
abbrev loP (u : Nat) : Prop := 56320 ≤ u ∧ u ≤ 57343
def pEnd (f : Nat → Nat) (n a : Nat) : Nat := if n ≤ a + 67 then n else if hiP (f (a + 67 - 1)) ∧ loP (f (a + 67)) then a + 67 - 1 else a + 67
def tEnd (f : Nat → Nat) (n os a : Nat) : Nat := if os = 0 then sEnd f n (n - a + 1) a 153 else pEnd f n a
theorem tEnd_le {f : Nat → Nat} {n os a : Nat} (h : a ≤ n) : tEnd f n os a ≤ n := by
  unfold tEnd; split
  · exact sEnd_le _ _ _ h
  · unfold pEnd; split
    · exact Nat.le_refl n
    · split <;> omega
abbrev aloneP (n sv os : Nat) : Prop := if os = 0 then sv ≤ 160 else 2 * n ≤ 140
/-- how many parts: fuel, parts so far, where the next one begins -/
def pcR (e : Nat → Nat) (n : Nat) : Nat → Nat → Nat → Nat
  | 0, _, _ => 0
  | m + 1, k, a => if n ≤ a then k else pcR e n m (k + 1) (e a)
def tParts (f : Nat → Nat) (n sv os : Nat) : Nat := if aloneP n sv os then 1 else pcR (tEnd f n os) n 256 0 0
theorem if10 {P : Prop} [Decidable P] : (if P then 1 else 0) < 2 ^ 31 := by split <;> omega
theorem if10t {P : Prop} [Decidable P] (c : ¬ (if P then 1 else 0) = 0) : P := Classical.byContradiction (fun z => by rw [if_neg z] at c; omega)
theorem if10f {P : Prop} [Decidable P] (c : (if P then 1 else 0) = 0) : ¬ P := fun z => by rw [if_pos z] at c; omega

set_option maxHeartbeats 4000000 in
set_option maxRecDepth 100000 in
theorem c_Text_init (l : Launch) (G : ah_G) (h : ah_H) (t tt tu : Nat) (ft : h t = some (tt, .inr (6, [.null, .int (nI 0), .int (nI 0), .int (nI 0)]))) (hne : tt ≠ tu) : Met l yX7_init wsX7_init ({ frames := 1, cells := 1, slots := 3000, locals := 20 }) (ah_Pc G [.ref t] h) (ah_Qv G (fun h' => ∃ q, h q = none ∧ h' = ah_up (ah_up h q (tu, .inl (G.2.2.1 0, 3000, .inl (nA (fun _ => 0))))) t (tt, .inr (6, [.ref q, .int (nI 0), .int (nI 0), .int (nI 0)])))) 1 3000 (ah_A G) := by
  refine ah_ofW (cc := cX7_init) (maxL := 1) (ret := none) (by decide) rfl (Nat.le_of_ble_eq_true rfl) ?_
  intro p e s m below meth c ls hx hb hr hml hown hlocks hname hts hE hR hS hl
  have hown : s.vm.findClass RX7 = some m.cls := hown
  have hl : lv_has ls 1 [(0, .ref t)] := hl
  have wmethodLink_RX7_3_objectInit := hts (.methodLink RX7 3 objectInit) (by decide +kernel)
  have winstanceMethod_objectInit := hts (.instanceMethod objectInit) (by decide +kernel)
  have wcode_objectInit_0xb1_1_none := hts (.code objectInit ⟨#[0xb1]⟩ 1 none) (by decide +kernel)
  have warrayClass_int := hts (.arrayClass .int) (by decide +kernel)
  have k9 := hts (.fieldLink RX7 9 "TextParts$Text" "units" "[I") (by decide +kernel)
  have hinX7 : ∀ w ∈ wsX70, w ∈ wsX7_init := by decide +kernel
  refine lv_aload_n hx hb dX7_init_0 rfl (lv_at hl 0 rfl) ?_
  refine W.objInit hx hb hown wmethodLink_RX7_3_objectInit winstanceMethod_objectInit wcode_objectInit_0xb1_1_none rfl (by rw [hml]; exact hl.1) rfl dX7_init_1 (Nat.le_of_ble_eq_true rfl) (Nat.le_of_ble_eq_true rfl) ?_
  refine W.eq (g2 := F0 m 4 ls []) rfl ?_
  refine lv_aload_n hx hb dX7_init_4 rfl (lv_at hl 0 rfl) ?_
  refine lv_sipush (v := nI 3000) hx hb dX7_init_5 (by decide) ?_
  refine ah_newi (n := 3000) hx hb hE hR hS warrayClass_int tu (by decide) (Nat.le_of_ble_eq_true rfl) (Nat.le_of_ble_eq_true rfl) dX7_init_8 (fun q_1 H hq_2 hR hS => ?_)
  rw [nA_0] at hR
  obtain ⟨h_3, e_4⟩ : ∃ zz9, zz9 = ah_up h q_1 (tu, .inl (G.2.2.1 0, 3000, .inl (nA (fun _ => 0)))) := ⟨_, rfl⟩
  have hR : ah_R G h_3 H := by rw [e_4]; exact hR
  have f_5 : h_3 t = some (tt, .inr (6, [.null, .int (nI 0), .int (nI 0), .int (nI 0)])) := by rw [e_4]; exact ah_new ft hq_2
  have f_6 : h_3 q_1 = some (tu, .inl (G.2.2.1 0, 3000, .inl (nA (fun _ => 0)))) := by rw [e_4]; exact ah_up_s _ _ _
  refine ah_putF (ci := 6) (v := .ref q_1) (ty := .array .int) (C := RX7) (T := TX7) (N := 4) hx hb hE hR hS hts hinX7 tyX7 tyX7_ok nmX7 hown f_5 rfl 0 (by decide) k9 (fun _ h9 => h9) rfl hname rfl (by decide +kernel) rfl rfl (Nat.le_of_ble_eq_true rfl) dX7_init_10 (fun H locs hR hS => ?_)
  obtain ⟨h_7, e_8⟩ : ∃ zz9, zz9 = ah_up h_3 t (tt, .inr (6, [.ref q_1, .int (nI 0), .int (nI 0), .int (nI 0)])) := ⟨_, rfl⟩
  have hR : ah_R G h_7 H := by rw [e_8]; exact hR
  have f_9 : h_7 t = some (tt, .inr (6, [.ref q_1, .int (nI 0), .int (nI 0), .int (nI 0)])) := by rw [e_8]; exact ah_up_s _ _ _
  have f_10 : h_7 q_1 = some (tu, .inl (G.2.2.1 0, 3000, .inl (nA (fun _ => 0)))) := by rw [e_8]; exact ah_keep f_6 f_5 (Ne.symm hne)
  refine ah_vret hx hb hr hlocks hR hS dX7_init_13 ?_
  exact ⟨q_1, hq_2, by rw [e_8, e_4]⟩

set_option maxHeartbeats 4000000 in
set_option maxRecDepth 100000 in
theorem c_Text_append (l : Launch) (G : ah_G) (h : ah_H) (t ua tt tu n sv os : Nat) (f : Nat → Nat) (ft : h t = some (tt, .inr (6, [.ref ua, .int (nI n), .int (nI sv), .int (nI os)]))) (fu : h ua = some (tu, .inl (G.2.2.1 0, 3000, .inl (nA f)))) (hne : tt ≠ tu) (hn : n ≤ 3000) (hsv : sv < 2 ^ 30) (hos : os < 2 ^ 30) (hf : ∀ j, f j < 65536) (u : Nat) (hu : u < 65536) (hlt : n < 3000) : Met l yX7_append wsX7_append ({ frames := 3, cells := 0, slots := 0, locals := 63 }) (ah_Pc G [.ref t, .int (nI u)] h) (ah_Qv G (fun h' => h' = ah_up (ah_up h ua (tu, .inl (G.2.2.1 0, 3000, .inl (nA (gU f n u))))) t (tt, .inr (6, [.ref ua, .int (nI (n + 1)), .int (nI (sv + svFor u)), .int (nI (os + if svFor u = 0 then 1 else 0))])))) 0 0 (ah_A G) := by
  refine ah_ofW (cc := cX7_append) (maxL := 3) (ret := none) (by decide) rfl (Nat.le_of_ble_eq_true rfl) ?_
  intro p e s m below meth c ls hx hb hr hml hown hlocks hname hts hE hR hS hl
  have hown : s.vm.findClass RX7 = some m.cls := hown
  have hl : lv_has ls 3 [(0, .ref t), (1, .int (nI u))] := hl
  have k15 := hts (.fieldLink RX7 15 "TextParts$Text" "count" "I") (by decide +kernel)
  have hinX7 : ∀ w ∈ wsX70, w ∈ wsX7_append := by decide +kernel
  have k9 := hts (.fieldLink RX7 9 "TextParts$Text" "units" "[I") (by decide +kernel)
  have k25 := hts (.fieldLink RX7 25 "TextParts$Text" "sevens" "I") (by decide +kernel)
  have k28 := hts (.fieldLink RX7 28 "TextParts$Text" "outsiders" "I") (by decide +kernel)
  refine lv_aload_n hx hb dX7_append_0 rfl (lv_at hl 0 rfl) ?_
  refine ah_get (ci := 6) (v := .int (nI n)) (C := RX7) (T := TX7) (N := 4) hx hb hE hR hts hinX7 hown ft rfl 1 (by decide) k15 (fun _ h9 => h9) rfl dX7_append_1 ?_
  refine lv_aload_n hx hb dX7_append_4 rfl (lv_at hl 0 rfl) ?_
  refine ah_get (ci := 6) (v := .ref ua) (C := RX7) (T := TX7) (N := 4) hx hb hE hR hts hinX7 hown ft rfl 0 (by decide) k9 (fun _ h9 => h9) rfl dX7_append_5 ?_
  refine ah_alen hx hb hE hR fu (show (ah_tys G)[0]? = some _ from rfl) dX7_append_8 ?_
  refine lv_icmp_lt (tgt := 13) hx hb dX7_append_9 (by decide) (fun c_1 => ?_) (fun c_1 => ?_)
  · skip
    have c_1 : n < 3000 := (nI_ltI (by omega) (by omega)).mp c_1
    refine lv_aload_n hx hb dX7_append_13 rfl (lv_at hl 0 rfl) ?_
    refine ah_get (ci := 6) (v := .ref ua) (C := RX7) (T := TX7) (N := 4) hx hb hE hR hts hinX7 hown ft rfl 0 (by decide) k9 (fun _ h9 => h9) rfl dX7_append_14 ?_
    refine lv_aload_n hx hb dX7_append_17 rfl (lv_at hl 0 rfl) ?_
    refine ah_get (ci := 6) (v := .int (nI n)) (C := RX7) (T := TX7) (N := 4) hx hb hE hR hts hinX7 hown ft rfl 1 (by decide) k15 (fun _ h9 => h9) rfl dX7_append_18 ?_
    refine lv_iload_n hx hb dX7_append_21 rfl (lv_at hl 1 rfl) ?_
    refine ah_iast (i := n) hx hb hE hR hS fu (by omega) (by omega) dX7_append_22 (fun H locs hR hS => ?_)
    rw [nA_upd] at hR
    obtain ⟨h_2, e_3⟩ : ∃ zz9, zz9 = ah_up h ua (tu, .inl (G.2.2.1 0, 3000, .inl (nA (gU f n u)))) := ⟨_, rfl⟩
    have hR : ah_R G h_2 H := by rw [e_3]; exact hR
    have f_4 : h_2 t = some (tt, .inr (6, [.ref ua, .int (nI n), .int (nI sv), .int (nI os)])) := by rw [e_3]; exact ah_keep ft fu hne
    have f_5 : h_2 ua = some (tu, .inl (G.2.2.1 0, 3000, .inl (nA (gU f n u)))) := by rw [e_3]; exact ah_up_s _ _ _
    refine lv_aload_n hx hb dX7_append_23 rfl (lv_at hl 0 rfl) ?_
    refine lv_dup hx hb dX7_append_24 rfl ?_
    refine ah_get (ci := 6) (v := .int (nI n)) (C := RX7) (T := TX7) (N := 4) hx hb hE hR hts hinX7 hown f_4 rfl 1 (by decide) k15 (fun _ h9 => h9) rfl dX7_append_25 ?_
    refine lv_iconst (v := nI 1) hx hb dX7_append_28 (by decide) ?_
    refine lv_iadd hx hb dX7_append_29 ?_
    refine ah_toi (v := nI (n + 1)) (nI_add _ _) ?_
    refine ah_put (ci := 6) (v := .int (nI (n + 1))) (ty := .int) (C := RX7) (T := TX7) (N := 4) hx hb hE hR hS hts hinX7 tyX7 tyX7_ok nmX7 hown f_4 rfl 1 (by decide) k15 (fun _ h9 => h9) rfl (by decide +kernel) rfl rfl (Nat.le_of_ble_eq_true rfl) dX7_append_30 (fun H locs hR hS => ?_)
    obtain ⟨h_6, e_7⟩ : ∃ zz9, zz9 = ah_up h_2 t (tt, .inr (6, [.ref ua, .int (nI (n + 1)), .int (nI sv), .int (nI os)])) := ⟨_, rfl⟩
    have hR : ah_R G h_6 H := by rw [e_7]; exact hR
    have f_8 : h_6 t = some (tt, .inr (6, [.ref ua, .int (nI (n + 1)), .int (nI sv), .int (nI os)])) := by rw [e_7]; exact ah_up_s _ _ _
    have f_9 : h_6 ua = some (tu, .inl (G.2.2.1 0, 3000, .inl (nA (gU f n u)))) := by rw [e_7]; exact ah_keep f_5 f_4 (Ne.symm hne)
    refine lv_iload_n hx hb dX7_append_33 rfl (lv_at hl 1 rfl) ?_
    refine ah_calli (va_runS (As := [.int (nI u)]) (rest := []) ⟨hx, hb, hml, hown, hts⟩ (c_sevensFor l G h_6 u (by omega)) (va_cwS 1 hts gX7_append_X0_sevensFor rfl rfl rfl (by decide +kernel) ⟨Nat.le_of_ble_eq_true rfl, Nat.le_of_ble_eq_true rfl⟩) (ah_preS hE hR hS) rfl rfl hl.1 rfl (lv_room (Nat.le_of_ble_eq_true rfl)) dX7_append_34 ⟨Nat.le_of_ble_eq_true rfl, Nat.le_of_ble_eq_true rfl⟩) hS (fun r_12 h_10 H locs p_11 hR hS => ?_)
    obtain ⟨e_13, e_14⟩ := p_11
    rw [e_14] at hR
    refine ah_toi e_13 ?_
    have h2 := svFor_le u
    refine lv_istore_n (lv' := [(2, .int (nI (svFor u))), (0, .ref t), (1, .int (nI u))]) hx hb dX7_append_37 rfl hl (by decide) rfl (fun ls hl => ?_)
    refine lv_aload_n hx hb dX7_append_38 rfl (lv_at hl 1 rfl) ?_
    refine lv_dup hx hb dX7_append_39 rfl ?_
    refine ah_get (ci := 6) (v := .int (nI sv)) (C := RX7) (T := TX7) (N := 4) hx hb hE hR hts hinX7 hown f_8 rfl 2 (by decide) k25 (fun _ h9 => h9) rfl dX7_append_40 ?_
    refine lv_iload_n hx hb dX7_append_43 rfl (lv_at hl 0 rfl) ?_
    refine lv_iadd hx hb dX7_append_44 ?_
    refine ah_toi (v := nI (sv + (svFor u))) (nI_add _ _) ?_
    refine ah_put (ci := 6) (v := .int (nI (sv + (svFor u)))) (ty := .int) (C := RX7) (T := TX7) (N := 4) hx hb hE hR hS hts hinX7 tyX7 tyX7_ok nmX7 hown f_8 rfl 2 (by decide) k25 (fun _ h9 => h9) rfl (by decide +kernel) rfl rfl (Nat.le_of_ble_eq_true rfl) dX7_append_45 (fun H locs hR hS => ?_)
    obtain ⟨h_15, e_16⟩ : ∃ zz9, zz9 = ah_up h_6 t (tt, .inr (6, [.ref ua, .int (nI (n + 1)), .int (nI (sv + (svFor u))), .int (nI os)])) := ⟨_, rfl⟩
    have hR : ah_R G h_15 H := by rw [e_16]; exact hR
    have f_17 : h_15 t = some (tt, .inr (6, [.ref ua, .int (nI (n + 1)), .int (nI (sv + (svFor u))), .int (nI os)])) := by rw [e_16]; exact ah_up_s _ _ _
    have f_18 : h_15 ua = some (tu, .inl (G.2.2.1 0, 3000, .inl (nA (gU f n u)))) := by rw [e_16]; exact ah_keep f_9 f_8 (Ne.symm hne)
    refine lv_iload_n hx hb dX7_append_48 rfl (lv_at hl 0 rfl) ?_
    refine lv_if_ne (tgt := 62) hx hb dX7_append_49 (by decide) (fun c_19 => ?_) (fun c_19 => ?_)
    · skip
      have c_19 : ¬ ((svFor u) = 0) := fun z9 => c_19 ((zi_eq (by omega)).mpr z9)
      refine ah_vret hx hb hr hlocks hR hS dX7_append_62 ?_
      rw [e_16, e_7, e_3]
      rw [if_neg c_19]
      simp only [ah_up2, Nat.add_zero]
    · skip
      have c_19 : (svFor u) = 0 := (zi_eq (by omega)).mp c_19
      refine lv_aload_n hx hb dX7_append_52 rfl (lv_at hl 1 rfl) ?_
      refine lv_dup hx hb dX7_append_53 rfl ?_
      refine ah_get (ci := 6) (v := .int (nI os)) (C := RX7) (T := TX7) (N := 4) hx hb hE hR hts hinX7 hown f_17 rfl 3 (by decide) k28 (fun _ h9 => h9) rfl dX7_append_54 ?_
      refine lv_iconst (v := nI 1) hx hb dX7_append_57 (by decide) ?_
      refine lv_iadd hx hb dX7_append_58 ?_
      refine ah_toi (v := nI (os + 1)) (nI_add _ _) ?_
      refine ah_put (ci := 6) (v := .int (nI (os + 1))) (ty := .int) (C := RX7) (T := TX7) (N := 4) hx hb hE hR hS hts hinX7 tyX7 tyX7_ok nmX7 hown f_17 rfl 3 (by decide) k28 (fun _ h9 => h9) rfl (by decide +kernel) rfl rfl (Nat.le_of_ble_eq_true rfl) dX7_append_59 (fun H locs hR hS => ?_)
      obtain ⟨h_20, e_21⟩ : ∃ zz9, zz9 = ah_up h_15 t (tt, .inr (6, [.ref ua, .int (nI (n + 1)), .int (nI (sv + (svFor u))), .int (nI (os + 1))])) := ⟨_, rfl⟩
      have hR : ah_R G h_20 H := by rw [e_21]; exact hR
      have f_22 : h_20 t = some (tt, .inr (6, [.ref ua, .int (nI (n + 1)), .int (nI (sv + (svFor u))), .int (nI (os + 1))])) := by rw [e_21]; exact ah_up_s _ _ _
      have f_23 : h_20 ua = some (tu, .inl (G.2.2.1 0, 3000, .inl (nA (gU f n u)))) := by rw [e_21]; exact ah_keep f_18 f_17 (Ne.symm hne)
      refine ah_vret hx hb hr hlocks hR hS dX7_append_62 ?_
      rw [e_21, e_16, e_7, e_3]
      rw [if_pos c_19]
      simp only [ah_up2, Nat.add_zero]
  · skip
    have c_1 : ¬ (n < 3000) := fun z9 => c_1 ((nI_ltI (by omega) (by omega)).mpr z9)
    exact absurd c_1 (by omega)

set_option maxHeartbeats 4000000 in
set_option maxRecDepth 100000 in
theorem c_Text_empty (l : Launch) (G : ah_G) (h : ah_H) (t ua tt tu n sv os : Nat) (f : Nat → Nat) (ft : h t = some (tt, .inr (6, [.ref ua, .int (nI n), .int (nI sv), .int (nI os)]))) (fu : h ua = some (tu, .inl (G.2.2.1 0, 3000, .inl (nA f)))) (hne : tt ≠ tu) (hn : n ≤ 3000) (hsv : sv < 2 ^ 30) (hos : os < 2 ^ 30) (hf : ∀ j, f j < 65536) : Met l yX7_empty wsX7_empty ({ frames := 0, cells := 0, slots := 0, locals := 0 }) (ah_Pc G [.ref t] h) (ah_Qv G (fun h' => h' = ah_up h t (tt, .inr (6, [.ref ua, .int (nI 0), .int (nI 0), .int (nI 0)])))) 0 0 (ah_A G) := by
  refine ah_ofW (cc := cX7_empty) (maxL := 1) (ret := none) (by decide) rfl (Nat.le_of_ble_eq_true rfl) ?_
  intro p e s m below meth c ls hx hb hr hml hown hlocks hname hts hE hR hS hl
  have hown : s.vm.findClass RX7 = some m.cls := hown
  have hl : lv_has ls 1 [(0, .ref t)] := hl
  have k15 := hts (.fieldLink RX7 15 "TextParts$Text" "count" "I") (by decide +kernel)
  have hinX7 : ∀ w ∈ wsX70, w ∈ wsX7_empty := by decide +kernel
  have k25 := hts (.fieldLink RX7 25 "TextParts$Text" "sevens" "I") (by decide +kernel)
  have k28 := hts (.fieldLink RX7 28 "TextParts$Text" "outsiders" "I") (by decide +kernel)
  refine lv_aload_n hx hb dX7_empty_0 rfl (lv_at hl 0 rfl) ?_
  refine lv_iconst (v := nI 0) hx hb dX7_empty_1 (by decide) ?_
  refine ah_put (ci := 6) (v := .int (nI 0)) (ty := .int) (C := RX7) (T := TX7) (N := 4) hx hb hE hR hS hts hinX7 tyX7 tyX7_ok nmX7 hown ft rfl 1 (by decide) k15 (fun _ h9 => h9) rfl (by decide +kernel) rfl rfl (Nat.le_of_ble_eq_true rfl) dX7_empty_2 (fun H locs hR hS => ?_)
  obtain ⟨h_1, e_2⟩ : ∃ zz9, zz9 = ah_up h t (tt, .inr (6, [.ref ua, .int (nI 0), .int (nI sv), .int (nI os)])) := ⟨_, rfl⟩
  have hR : ah_R G h_1 H := by rw [e_2]; exact hR
  have f_3 : h_1 t = some (tt, .inr (6, [.ref ua, .int (nI 0), .int (nI sv), .int (nI os)])) := by rw [e_2]; exact ah_up_s _ _ _
  have f_4 : h_1 ua = some (tu, .inl (G.2.2.1 0, 3000, .inl (nA f))) := by rw [e_2]; exact ah_keep fu ft (Ne.symm hne)
  refine lv_aload_n hx hb dX7_empty_5 rfl (lv_at hl 0 rfl) ?_
  refine lv_iconst (v := nI 0) hx hb dX7_empty_6 (by decide) ?_
  refine ah_put (ci := 6) (v := .int (nI 0)) (ty := .int) (C := RX7) (T := TX7) (N := 4) hx hb hE hR hS hts hinX7 tyX7 tyX7_ok nmX7 hown f_3 rfl 2 (by decide) k25 (fun _ h9 => h9) rfl (by decide +kernel) rfl rfl (Nat.le_of_ble_eq_true rfl) dX7_empty_7 (fun H locs hR hS => ?_)
  obtain ⟨h_5, e_6⟩ : ∃ zz9, zz9 = ah_up h_1 t (tt, .inr (6, [.ref ua, .int (nI 0), .int (nI 0), .int (nI os)])) := ⟨_, rfl⟩
  have hR : ah_R G h_5 H := by rw [e_6]; exact hR
  have f_7 : h_5 t = some (tt, .inr (6, [.ref ua, .int (nI 0), .int (nI 0), .int (nI os)])) := by rw [e_6]; exact ah_up_s _ _ _
  have f_8 : h_5 ua = some (tu, .inl (G.2.2.1 0, 3000, .inl (nA f))) := by rw [e_6]; exact ah_keep f_4 f_3 (Ne.symm hne)
  refine lv_aload_n hx hb dX7_empty_10 rfl (lv_at hl 0 rfl) ?_
  refine lv_iconst (v := nI 0) hx hb dX7_empty_11 (by decide) ?_
  refine ah_put (ci := 6) (v := .int (nI 0)) (ty := .int) (C := RX7) (T := TX7) (N := 4) hx hb hE hR hS hts hinX7 tyX7 tyX7_ok nmX7 hown f_7 rfl 3 (by decide) k28 (fun _ h9 => h9) rfl (by decide +kernel) rfl rfl (Nat.le_of_ble_eq_true rfl) dX7_empty_12 (fun H locs hR hS => ?_)
  obtain ⟨h_9, e_10⟩ : ∃ zz9, zz9 = ah_up h_5 t (tt, .inr (6, [.ref ua, .int (nI 0), .int (nI 0), .int (nI 0)])) := ⟨_, rfl⟩
  have hR : ah_R G h_9 H := by rw [e_10]; exact hR
  have f_11 : h_9 t = some (tt, .inr (6, [.ref ua, .int (nI 0), .int (nI 0), .int (nI 0)])) := by rw [e_10]; exact ah_up_s _ _ _
  have f_12 : h_9 ua = some (tu, .inl (G.2.2.1 0, 3000, .inl (nA f))) := by rw [e_10]; exact ah_keep f_8 f_7 (Ne.symm hne)
  refine ah_vret hx hb hr hlocks hR hS dX7_empty_15 ?_
  rw [e_10, e_6, e_2]
  simp only [ah_up2]

set_option maxHeartbeats 4000000 in
set_option maxRecDepth 100000 in
theorem c_Text_inAlphabet (l : Launch) (G : ah_G) (h : ah_H) (t ua tt tu n sv os : Nat) (f : Nat → Nat) (ft : h t = some (tt, .inr (6, [.ref ua, .int (nI n), .int (nI sv), .int (nI os)]))) (fu : h ua = some (tu, .inl (G.2.2.1 0, 3000, .inl (nA f)))) (hne : tt ≠ tu) (hn : n ≤ 3000) (hsv : sv < 2 ^ 30) (hos : os < 2 ^ 30) (hf : ∀ j, f j < 65536) : Met l yX7_inAlphabet wsX7_inAlphabet ({ frames := 0, cells := 0, slots := 0, locals := 0 }) (ah_Pc G [.ref t] h) (ah_Qi G (fun v h' => v = nI (if os = 0 then 1 else 0) ∧ h' = h)) 0 0 (ah_A G) := by
  refine ah_ofW (cc := cX7_inAlphabet) (maxL := 1) (ret := (some .boolean)) (by decide) rfl (Nat.le_of_ble_eq_true rfl) ?_
  intro p e s m below meth c ls hx hb hr hml hown hlocks hname hts hE hR hS hl
  have hown : s.vm.findClass RX7 = some m.cls := hown
  have hl : lv_has ls 1 [(0, .ref t)] := hl
  have k28 := hts (.fieldLink RX7 28 "TextParts$Text" "outsiders" "I") (by decide +kernel)
  have hinX7 : ∀ w ∈ wsX70, w ∈ wsX7_inAlphabet := by decide +kernel
  refine lv_aload_n hx hb dX7_inAlphabet_0 rfl (lv_at hl 0 rfl) ?_
  refine ah_get (ci := 6) (v := .int (nI os)) (C := RX7) (T := TX7) (N := 4) hx hb hE hR hts hinX7 hown ft rfl 3 (by decide) k28 (fun _ h9 => h9) rfl dX7_inAlphabet_1 ?_
  refine lv_if_ne (tgt := 11) hx hb dX7_inAlphabet_4 (by decide) (fun c_1 => ?_) (fun c_1 => ?_)
  · skip
    have c_1 : ¬ (os = 0) := fun z9 => c_1 ((zi_eq (by omega)).mpr z9)
    refine lv_iconst (v := nI 0) hx hb dX7_inAlphabet_11 (by decide) ?_
    refine ah_zret (v := nI 0) hx hb hr hlocks hR hS dX7_inAlphabet_12 (by decide) ?_
    first | exact ⟨by rw [if_pos (by omega)], rfl⟩ | exact ⟨by rw [if_neg (by omega)], rfl⟩
  · skip
    have c_1 : os = 0 := (zi_eq (by omega)).mp c_1
    refine lv_iconst (v := nI 1) hx hb dX7_inAlphabet_7 (by decide) ?_
    refine lv_goto (tgt := 12) hx hb dX7_inAlphabet_8 (by decide) ?_
    refine ah_zret (v := nI 1) hx hb hr hlocks hR hS dX7_inAlphabet_12 (by decide) ?_
    first | exact ⟨by rw [if_pos (by omega)], rfl⟩ | exact ⟨by rw [if_neg (by omega)], rfl⟩

set_option maxHeartbeats 4000000 in
set_option maxRecDepth 100000 in
theorem c_Text_unitAt (l : Launch) (G : ah_G) (h : ah_H) (t ua tt tu n sv os : Nat) (f : Nat → Nat) (ft : h t = some (tt, .inr (6, [.ref ua, .int (nI n), .int (nI sv), .int (nI os)]))) (fu : h ua = some (tu, .inl (G.2.2.1 0, 3000, .inl (nA f)))) (hne : tt ≠ tu) (hn : n ≤ 3000) (hsv : sv < 2 ^ 30) (hos : os < 2 ^ 30) (hf : ∀ j, f j < 65536) (k : Nat) (hk : k < n) : Met l yX7_unitAt wsX7_unitAt ({ frames := 0, cells := 0, slots := 0, locals := 0 }) (ah_Pc G [.ref t, .int (nI k)] h) (ah_Qi G (fun v h' => v = nI (f k) ∧ h' = h)) 0 0 (ah_A G) := by
  refine ah_ofW (cc := cX7_unitAt) (maxL := 2) (ret := (some .int)) (by decide) rfl (Nat.le_of_ble_eq_true rfl) ?_
  intro p e s m below meth c ls hx hb hr hml hown hlocks hname hts hE hR hS hl
  have hown : s.vm.findClass RX7 = some m.cls := hown
  have hl : lv_has ls 2 [(0, .ref t), (1, .int (nI k))] := hl
  have k15 := hts (.fieldLink RX7 15 "TextParts$Text" "count" "I") (by decide +kernel)
  have hinX7 : ∀ w ∈ wsX70, w ∈ wsX7_unitAt := by decide +kernel
  have k9 := hts (.fieldLink RX7 9 "TextParts$Text" "units" "[I") (by decide +kernel)
  refine lv_iload_n hx hb dX7_unitAt_0 rfl (lv_at hl 1 rfl) ?_
  refine lv_if_lt (tgt := 21) hx hb dX7_unitAt_1 (by decide) (fun c_1 => ?_) (fun c_1 => ?_)
  · skip
    exact absurd c_1 (nI_pos (by omega))
  · skip
    refine lv_iload_n hx hb dX7_unitAt_4 rfl (lv_at hl 1 rfl) ?_
    refine lv_aload_n hx hb dX7_unitAt_5 rfl (lv_at hl 0 rfl) ?_
    refine ah_get (ci := 6) (v := .int (nI n)) (C := RX7) (T := TX7) (N := 4) hx hb hE hR hts hinX7 hown ft rfl 1 (by decide) k15 (fun _ h9 => h9) rfl dX7_unitAt_6 ?_
    refine lv_icmp_ge (tgt := 21) hx hb dX7_unitAt_9 (by decide) (fun c_2 => ?_) (fun c_2 => ?_)
    · skip
      have c_2 : n ≤ k := (nI_leI (by omega) (by omega)).mp c_2
      exact absurd c_2 (by omega)
    · skip
      have c_2 : ¬ (n ≤ k) := fun z9 => c_2 ((nI_leI (by omega) (by omega)).mpr z9)
      refine lv_aload_n hx hb dX7_unitAt_12 rfl (lv_at hl 0 rfl) ?_
      refine ah_get (ci := 6) (v := .ref ua) (C := RX7) (T := TX7) (N := 4) hx hb hE hR hts hinX7 hown ft rfl 0 (by decide) k9 (fun _ h9 => h9) rfl dX7_unitAt_13 ?_
      refine lv_iload_n hx hb dX7_unitAt_16 rfl (lv_at hl 1 rfl) ?_
      refine ah_iald (i := k) hx hb hE hR fu (by omega) (by omega) dX7_unitAt_17 ?_
      refine ah_toi (v := nI (f k)) rfl ?_
      refine lv_goto (tgt := 22) hx hb dX7_unitAt_18 (by decide) ?_
      refine ah_iret (v := nI (f k)) hx hb hr hlocks hR hS dX7_unitAt_22 ?_
      exact ⟨rfl, rfl⟩

set_option maxHeartbeats 4000000 in
set_option maxRecDepth 100000 in
theorem c_Text_isHigh (l : Launch) (G : ah_G) (h : ah_H) (u : Nat) (hu : u < 2 ^ 31) : Met l yX7_isHigh wsX7_isHigh ({ frames := 0, cells := 0, slots := 0, locals := 0 }) (ah_Pc G [.int (nI u)] h) (ah_Qi G (fun v h' => v = nI (if hiP u then 1 else 0) ∧ h' = h)) 0 0 (ah_A G) := by
  refine ah_ofW (cc := cX7_isHigh) (maxL := 1) (ret := (some .boolean)) (by decide) rfl (Nat.le_of_ble_eq_true rfl) ?_
  intro p e s m below meth c ls hx hb hr hml hown hlocks hname hts hE hR hS hl
  have hown : s.vm.findClass RX7 = some m.cls := hown
  have hl : lv_has ls 1 [(0, .int (nI u))] := hl
  have wconstant_RX7_57_55296 := hts (.constant RX7 57 (55296)) (by decide +kernel)
  have wconstant_RX7_58_56319 := hts (.constant RX7 58 (56319)) (by decide +kernel)
  refine lv_iload_n hx hb dX7_isHigh_0 rfl (lv_at hl 0 rfl) ?_
  refine lv_ldc (v := 55296) hx hb hown wconstant_RX7_57_55296 dX7_isHigh_1 ?_
  refine ah_toi (v := nI 55296) (by decide) ?_
  refine lv_icmp_lt (tgt := 16) hx hb dX7_isHigh_3 (by decide) (fun c_1 => ?_) (fun c_1 => ?_)
  · skip
    have c_1 : u < 55296 := (nI_ltI (by omega) (by omega)).mp c_1
    refine lv_iconst (v := nI 0) hx hb dX7_isHigh_16 (by decide) ?_
    refine ah_zret (v := nI 0) hx hb hr hlocks hR hS dX7_isHigh_17 (by decide) ?_
    first | (exfalso; omega) | exact ⟨by rw [if_pos (show hiP u by omega)], rfl⟩ | exact ⟨by rw [if_neg (show ¬ hiP u by omega)], rfl⟩
  · skip
    have c_1 : ¬ (u < 55296) := fun z9 => c_1 ((nI_ltI (by omega) (by omega)).mpr z9)
    refine lv_iload_n hx hb dX7_isHigh_6 rfl (lv_at hl 0 rfl) ?_
    refine lv_ldc (v := 56319) hx hb hown wconstant_RX7_58_56319 dX7_isHigh_7 ?_
    refine ah_toi (v := nI 56319) (by decide) ?_
    refine lv_icmp_gt (tgt := 16) hx hb dX7_isHigh_9 (by decide) (fun c_2 => ?_) (fun c_2 => ?_)
    · skip
      have c_2 : 56319 < u := (nI_ltI (by omega) (by omega)).mp c_2
      refine lv_iconst (v := nI 0) hx hb dX7_isHigh_16 (by decide) ?_
      refine ah_zret (v := nI 0) hx hb hr hlocks hR hS dX7_isHigh_17 (by decide) ?_
      first | (exfalso; omega) | exact ⟨by rw [if_pos (show hiP u by omega)], rfl⟩ | exact ⟨by rw [if_neg (show ¬ hiP u by omega)], rfl⟩
    · skip
      have c_2 : ¬ (56319 < u) := fun z9 => c_2 ((nI_ltI (by omega) (by omega)).mpr z9)
      refine lv_iconst (v := nI 1) hx hb dX7_isHigh_12 (by decide) ?_
      refine lv_goto (tgt := 17) hx hb dX7_isHigh_13 (by decide) ?_
      refine ah_zret (v := nI 1) hx hb hr hlocks hR hS dX7_isHigh_17 (by decide) ?_
      first | (exfalso; omega) | exact ⟨by rw [if_pos (show hiP u by omega)], rfl⟩ | exact ⟨by rw [if_neg (show ¬ hiP u by omega)], rfl⟩

set_option maxHeartbeats 4000000 in
set_option maxRecDepth 100000 in
theorem c_Text_isLow (l : Launch) (G : ah_G) (h : ah_H) (u : Nat) (hu : u < 2 ^ 31) : Met l yX7_isLow wsX7_isLow ({ frames := 0, cells := 0, slots := 0, locals := 0 }) (ah_Pc G [.int (nI u)] h) (ah_Qi G (fun v h' => v = nI (if loP u then 1 else 0) ∧ h' = h)) 0 0 (ah_A G) := by
  refine ah_ofW (cc := cX7_isLow) (maxL := 1) (ret := (some .boolean)) (by decide) rfl (Nat.le_of_ble_eq_true rfl) ?_
  intro p e s m below meth c ls hx hb hr hml hown hlocks hname hts hE hR hS hl
  have hown : s.vm.findClass RX7 = some m.cls := hown
  have hl : lv_has ls 1 [(0, .int (nI u))] := hl
  have wconstant_RX7_59_56320 := hts (.constant RX7 59 (56320)) (by decide +kernel)
  have wconstant_RX7_60_57343 := hts (.constant RX7 60 (57343)) (by decide +kernel)
  refine lv_iload_n hx hb dX7_isLow_0 rfl (lv_at hl 0 rfl) ?_
  refine lv_ldc (v := 56320) hx hb hown wconstant_RX7_59_56320 dX7_isLow_1 ?_
  refine ah_toi (v := nI 56320) (by decide) ?_
  refine lv_icmp_lt (tgt := 16) hx hb dX7_isLow_3 (by decide) (fun c_1 => ?_) (fun c_1 => ?_)
  · skip
    have c_1 : u < 56320 := (nI_ltI (by omega) (by omega)).mp c_1
    refine lv_iconst (v := nI 0) hx hb dX7_isLow_16 (by decide) ?_
    refine ah_zret (v := nI 0) hx hb hr hlocks hR hS dX7_isLow_17 (by decide) ?_
    first | (exfalso; omega) | exact ⟨by rw [if_pos (show loP u by omega)], rfl⟩ | exact ⟨by rw [if_neg (show ¬ loP u by omega)], rfl⟩
  · skip
    have c_1 : ¬ (u < 56320) := fun z9 => c_1 ((nI_ltI (by omega) (by omega)).mpr z9)
    refine lv_iload_n hx hb dX7_isLow_6 rfl (lv_at hl 0 rfl) ?_
    refine lv_ldc (v := 57343) hx hb hown wconstant_RX7_60_57343 dX7_isLow_7 ?_
    refine ah_toi (v := nI 57343) (by decide) ?_
    refine lv_icmp_gt (tgt := 16) hx hb dX7_isLow_9 (by decide) (fun c_2 => ?_) (fun c_2 => ?_)
    · skip
      have c_2 : 57343 < u := (nI_ltI (by omega) (by omega)).mp c_2
      refine lv_iconst (v := nI 0) hx hb dX7_isLow_16 (by decide) ?_
      refine ah_zret (v := nI 0) hx hb hr hlocks hR hS dX7_isLow_17 (by decide) ?_
      first | (exfalso; omega) | exact ⟨by rw [if_pos (show loP u by omega)], rfl⟩ | exact ⟨by rw [if_neg (show ¬ loP u by omega)], rfl⟩
    · skip
      have c_2 : ¬ (57343 < u) := fun z9 => c_2 ((nI_ltI (by omega) (by omega)).mpr z9)
      refine lv_iconst (v := nI 1) hx hb dX7_isLow_12 (by decide) ?_
      refine lv_goto (tgt := 17) hx hb dX7_isLow_13 (by decide) ?_
      refine ah_zret (v := nI 1) hx hb hr hlocks hR hS dX7_isLow_17 (by decide) ?_
      first | (exfalso; omega) | exact ⟨by rw [if_pos (show loP u by omega)], rfl⟩ | exact ⟨by rw [if_neg (show ¬ loP u by omega)], rfl⟩

set_option maxHeartbeats 4000000 in
set_option maxRecDepth 100000 in
theorem c_Text_sevensBetween (l : Launch) (G : ah_G) (h : ah_H) (t ua tt tu n sv os : Nat) (f : Nat → Nat) (ft : h t = some (tt, .inr (6, [.ref ua, .int (nI n), .int (nI sv), .int (nI os)]))) (fu : h ua = some (tu, .inl (G.2.2.1 0, 3000, .inl (nA f)))) (hne : tt ≠ tu) (hn : n ≤ 3000) (hsv : sv < 2 ^ 30) (hos : os < 2 ^ 30) (hf : ∀ j, f j < 65536) (a b : Nat) (hab : a ≤ b) (hbn : b ≤ n) : Met l yX7_sevensBetween wsX7_sevensBetween ({ frames := 3, cells := 0, slots := 0, locals := 63 }) (ah_Pc G [.ref t, .int (nI a), .int (nI b)] h) (ah_Qi G (fun v h' => v = nI (sumS f a (b - a)) ∧ h' = h)) 0 0 (ah_A G) := by
  refine ah_ofW (cc := cX7_sevensBetween) (maxL := 5) (ret := (some .int)) (by decide) rfl (Nat.le_of_ble_eq_true rfl) ?_
  intro p e s m below meth c ls hx hb hr hml hown hlocks hname hts hE hR hS hl
  have hown : s.vm.findClass RX7 = some m.cls := hown
  have hl : lv_has ls 5 [(0, .ref t), (1, .int (nI a)), (2, .int (nI b))] := hl
  refine lv_iconst (v := nI 0) hx hb dX7_sevensBetween_0 (by decide) ?_
  refine lv_istore_n (lv' := [(3, .int (nI 0)), (0, .ref t), (1, .int (nI a)), (2, .int (nI b))]) hx hb dX7_sevensBetween_1 rfl hl (by decide) rfl (fun ls hl => ?_)
  refine lv_iload_n hx hb dX7_sevensBetween_2 rfl (lv_at hl 2 rfl) ?_
  refine lv_istore (lv' := [(4, .int (nI a)), (3, .int (nI 0)), (0, .ref t), (1, .int (nI a)), (2, .int (nI b))]) hx hb dX7_sevensBetween_3 hl (by decide) rfl (fun ls hl => ?_)
  have e0 : nI 0 = nI (sumS f a (a - a)) := by rw [Nat.sub_self]; rfl
  rw [e0] at hl
  have L5 : ∀ (N5 : Nat) (i : Nat) (H : Heap) (locs : List Loc) (ls : Array Slot), b - i < N5 → (a ≤ i) → (i ≤ b) → (h t = some (tt, .inr (6, [.ref ua, .int (nI n), .int (nI sv), .int (nI os)]))) → (h ua = some (tu, .inl (G.2.2.1 0, 3000, .inl (nA f)))) → ah_R G h H → va_S (ah_A G) s.heap H locs → lv_has ls 5 [(4, .int (nI i)), (3, .int (nI (sumS f a (i - a)))), (0, .ref t), (1, .int (nI a)), (2, .int (nI b))] → W p l e ({ frames := 3, cells := 0, slots := 0, locals := 63 }) s m ([.ref t, .int (nI a), .int (nI b)] : List Value).toArray below meth c H locs 0 0 (MQ below (ah_Qi G (fun v h' => v = nI (sumS f a (b - a)) ∧ h' = h)) ([.ref t, .int (nI a), .int (nI b)] : List Value).toArray s 0 0 (ah_A G)) (F0 m 5 ls []) := by
    intro N5
    induction N5 with
    | zero => intro i  H locs ls hN; exact absurd hN (Nat.not_lt_zero _)
    | succ N5 ih5 =>
      intro i  H locs ls hN5 hi hi2 ft fu hR hS hl
      refine lv_iload hx hb dX7_sevensBetween_5 (lv_at hl 0 rfl) ?_
      refine lv_iload_n hx hb dX7_sevensBetween_7 rfl (lv_at hl 4 rfl) ?_
      refine lv_icmp_ge (tgt := 29) hx hb dX7_sevensBetween_8 (by decide) (fun c_1 => ?_) (fun c_1 => ?_)
      · skip
        have c_1 : b ≤ i := (nI_leI (by omega) (by omega)).mp c_1
        refine lv_iload_n hx hb dX7_sevensBetween_29 rfl (lv_at hl 1 rfl) ?_
        refine ah_iret (v := nI (sumS f a (i - a))) hx hb hr hlocks hR hS dX7_sevensBetween_30 ?_
        exact ⟨by rw [show i = b by omega], rfl⟩
      · skip
        have c_1 : ¬ (b ≤ i) := fun z9 => c_1 ((nI_leI (by omega) (by omega)).mpr z9)
        refine lv_iload_n hx hb dX7_sevensBetween_11 rfl (lv_at hl 1 rfl) ?_
        refine lv_aload_n hx hb dX7_sevensBetween_12 rfl (lv_at hl 2 rfl) ?_
        refine lv_iload hx hb dX7_sevensBetween_13 (lv_at hl 0 rfl) ?_
        refine ah_calli (va_runV (As := [.int (nI i)]) (rest := [.int (nI (sumS f a (i - a)))]) ⟨hx, hb, hml, hown, hts⟩ (c_Text_unitAt l G h t ua tt tu n sv os f ft fu hne hn hsv hos hf i (by omega)) (cwV 1 hts gX7_sevensBetween_X7_unitAt rfl rfl rfl (by decide +kernel) ⟨Nat.le_of_ble_eq_true rfl, Nat.le_of_ble_eq_true rfl⟩) (ah_preV hE hR hS ft rfl) rfl rfl hl.1 rfl (lv_room (Nat.le_of_ble_eq_true rfl)) dX7_sevensBetween_15 ⟨Nat.le_of_ble_eq_true rfl, Nat.le_of_ble_eq_true rfl⟩) hS (fun r_4 h_2 H locs p_3 hR hS => ?_)
        obtain ⟨e_5, e_6⟩ := p_3
        rw [e_6] at hR
        refine ah_toi e_5 ?_
        have hfu := hf i
        refine ah_calli (va_runS (As := [.int (nI (f i))]) (rest := [.int (nI (sumS f a (i - a)))]) ⟨hx, hb, hml, hown, hts⟩ (c_sevensFor l G h (f i) (by omega)) (va_cwS 1 hts gX7_sevensBetween_X0_sevensFor rfl rfl rfl (by decide +kernel) ⟨Nat.le_of_ble_eq_true rfl, Nat.le_of_ble_eq_true rfl⟩) (ah_preS hE hR hS) rfl rfl hl.1 rfl (lv_room (Nat.le_of_ble_eq_true rfl)) dX7_sevensBetween_18 ⟨Nat.le_of_ble_eq_true rfl, Nat.le_of_ble_eq_true rfl⟩) hS (fun r_9 h_7 H locs p_8 hR hS => ?_)
        obtain ⟨e_10, e_11⟩ := p_8
        rw [e_11] at hR
        refine ah_toi e_10 ?_
        have hsf := svFor_le (f i)
        refine lv_iadd hx hb dX7_sevensBetween_21 ?_
        refine ah_toi (v := nI (sumS f a (i + 1 - a))) (by rw [nI_add, show i + 1 - a = (i - a) + 1 by omega]; simp only [sumS]; rw [show a + (i - a) = i by omega]) ?_
        refine lv_istore_n (lv' := [(3, .int (nI (sumS f a (i + 1 - a)))), (4, .int (nI i)), (0, .ref t), (1, .int (nI a)), (2, .int (nI b))]) hx hb dX7_sevensBetween_22 rfl hl (by decide) rfl (fun ls hl => ?_)
        refine lv_iinc (v := nI (i + 1)) (lv' := [(4, .int (nI (i + 1))), (3, .int (nI (sumS f a (i + 1 - a)))), (0, .ref t), (1, .int (nI a)), (2, .int (nI b))]) hx hb dX7_sevensBetween_23 hl (k := 1) rfl (show nI i + Int32.ofInt 1 = nI (i + 1) from nI_add _ 1) (by decide) rfl (fun ls hl => ?_)
        refine lv_goto (tgt := 5) hx hb dX7_sevensBetween_26 (by decide) ?_
        exact ih5  (i + 1) _ _ ls (by omega) (by omega) (by omega) ft fu hR hS (lv_sub hl [0, 1, 2, 3, 4] rfl)
  exact L5 ((b - a) + 1) a _ _ ls (by omega) (by omega) (by omega) ft fu hR hS (lv_sub hl [0, 1, 2, 3, 4] rfl)

set_option maxHeartbeats 4000000 in
set_option maxRecDepth 100000 in
theorem c_Text_fitsAlone (l : Launch) (G : ah_G) (h : ah_H) (t ua tt tu n sv os : Nat) (f : Nat → Nat) (ft : h t = some (tt, .inr (6, [.ref ua, .int (nI n), .int (nI sv), .int (nI os)]))) (fu : h ua = some (tu, .inl (G.2.2.1 0, 3000, .inl (nA f)))) (hne : tt ≠ tu) (hn : n ≤ 3000) (hsv : sv < 2 ^ 30) (hos : os < 2 ^ 30) (hf : ∀ j, f j < 65536) : Met l yX7_fitsAlone wsX7_fitsAlone ({ frames := 1, cells := 0, slots := 0, locals := 20 }) (ah_Pc G [.ref t] h) (ah_Qi G (fun v h' => v = nI (if aloneP n sv os then 1 else 0) ∧ h' = h)) 0 0 (ah_A G) := by
  refine ah_ofW (cc := cX7_fitsAlone) (maxL := 1) (ret := (some .boolean)) (by decide) rfl (Nat.le_of_ble_eq_true rfl) ?_
  intro p e s m below meth c ls hx hb hr hml hown hlocks hname hts hE hR hS hl
  have hown : s.vm.findClass RX7 = some m.cls := hown
  have hl : lv_has ls 1 [(0, .ref t)] := hl
  have k15 := hts (.fieldLink RX7 15 "TextParts$Text" "count" "I") (by decide +kernel)
  have hinX7 : ∀ w ∈ wsX70, w ∈ wsX7_fitsAlone := by decide +kernel
  have k25 := hts (.fieldLink RX7 25 "TextParts$Text" "sevens" "I") (by decide +kernel)
  refine lv_aload_n hx hb dX7_fitsAlone_0 rfl (lv_at hl 0 rfl) ?_
  refine ah_calli (va_runV (As := []) (rest := []) ⟨hx, hb, hml, hown, hts⟩ (c_Text_inAlphabet l G h t ua tt tu n sv os f ft fu hne hn hsv hos hf) (cwV 0 hts gX7_fitsAlone_X7_inAlphabet rfl rfl rfl (by decide +kernel) ⟨Nat.le_of_ble_eq_true rfl, Nat.le_of_ble_eq_true rfl⟩) (ah_preV hE hR hS ft rfl) rfl rfl hl.1 rfl (lv_room (Nat.le_of_ble_eq_true rfl)) dX7_fitsAlone_1 ⟨Nat.le_of_ble_eq_true rfl, Nat.le_of_ble_eq_true rfl⟩) hS (fun r_3 h_1 H locs p_2 hR hS => ?_)
  obtain ⟨e_4, e_5⟩ := p_2
  rw [e_5] at hR
  refine ah_toi e_4 ?_
  have h01 : (if os = 0 then 1 else 0) < 2 ^ 31 := if10
  refine lv_if_eq (tgt := 25) hx hb dX7_fitsAlone_4 (by decide) (fun c_6 => ?_) (fun c_6 => ?_)
  · skip
    have c_6 : (if os = 0 then 1 else 0) = 0 := (zi_eq (by omega)).mp c_6
    have ho := if10f c_6
    refine lv_iconst (v := nI 2) hx hb dX7_fitsAlone_25 (by decide) ?_
    refine lv_aload_n hx hb dX7_fitsAlone_26 rfl (lv_at hl 0 rfl) ?_
    refine ah_get (ci := 6) (v := .int (nI n)) (C := RX7) (T := TX7) (N := 4) hx hb hE hR hts hinX7 hown ft rfl 1 (by decide) k15 (fun _ h9 => h9) rfl dX7_fitsAlone_27 ?_
    refine lv_imul hx hb dX7_fitsAlone_30 ?_
    refine ah_toi (v := nI (2 * n)) (pk_mul _ _) ?_
    refine lv_sipush (v := nI 140) hx hb dX7_fitsAlone_31 (by decide) ?_
    refine lv_icmp_gt (tgt := 41) hx hb dX7_fitsAlone_34 (by decide) (fun c_7 => ?_) (fun c_7 => ?_)
    · skip
      have c_7 : 140 < (2 * n) := (nI_ltI (by omega) (by omega)).mp c_7
      refine lv_iconst (v := nI 0) hx hb dX7_fitsAlone_41 (by decide) ?_
      refine ah_zret (v := nI 0) hx hb hr hlocks hR hS dX7_fitsAlone_42 (by decide) ?_
      first | exact ⟨by rw [if_pos (by unfold aloneP; first | (rw [if_pos ho]; omega) | (rw [if_neg ho]; omega))], rfl⟩ | exact ⟨by rw [if_neg (by unfold aloneP; first | (rw [if_pos ho]; omega) | (rw [if_neg ho]; omega))], rfl⟩
    · skip
      have c_7 : ¬ (140 < (2 * n)) := fun z9 => c_7 ((nI_ltI (by omega) (by omega)).mpr z9)
      refine lv_iconst (v := nI 1) hx hb dX7_fitsAlone_37 (by decide) ?_
      refine lv_goto (tgt := 42) hx hb dX7_fitsAlone_38 (by decide) ?_
      refine ah_zret (v := nI 1) hx hb hr hlocks hR hS dX7_fitsAlone_42 (by decide) ?_
      first | exact ⟨by rw [if_pos (by unfold aloneP; first | (rw [if_pos ho]; omega) | (rw [if_neg ho]; omega))], rfl⟩ | exact ⟨by rw [if_neg (by unfold aloneP; first | (rw [if_pos ho]; omega) | (rw [if_neg ho]; omega))], rfl⟩
  · skip
    have c_6 : ¬ ((if os = 0 then 1 else 0) = 0) := fun z9 => c_6 ((zi_eq (by omega)).mpr z9)
    have ho := if10t c_6
    refine lv_aload_n hx hb dX7_fitsAlone_7 rfl (lv_at hl 0 rfl) ?_
    refine ah_get (ci := 6) (v := .int (nI sv)) (C := RX7) (T := TX7) (N := 4) hx hb hE hR hts hinX7 hown ft rfl 2 (by decide) k25 (fun _ h9 => h9) rfl dX7_fitsAlone_8 ?_
    refine lv_sipush (v := nI 160) hx hb dX7_fitsAlone_11 (by decide) ?_
    refine lv_icmp_gt (tgt := 21) hx hb dX7_fitsAlone_14 (by decide) (fun c_8 => ?_) (fun c_8 => ?_)
    · skip
      have c_8 : 160 < sv := (nI_ltI (by omega) (by omega)).mp c_8
      refine lv_iconst (v := nI 0) hx hb dX7_fitsAlone_21 (by decide) ?_
      refine lv_goto (tgt := 42) hx hb dX7_fitsAlone_22 (by decide) ?_
      refine ah_zret (v := nI 0) hx hb hr hlocks hR hS dX7_fitsAlone_42 (by decide) ?_
      first | exact ⟨by rw [if_pos (by unfold aloneP; first | (rw [if_pos ho]; omega) | (rw [if_neg ho]; omega))], rfl⟩ | exact ⟨by rw [if_neg (by unfold aloneP; first | (rw [if_pos ho]; omega) | (rw [if_neg ho]; omega))], rfl⟩
    · skip
      have c_8 : ¬ (160 < sv) := fun z9 => c_8 ((nI_ltI (by omega) (by omega)).mpr z9)
      refine lv_iconst (v := nI 1) hx hb dX7_fitsAlone_17 (by decide) ?_
      refine lv_goto (tgt := 42) hx hb dX7_fitsAlone_18 (by decide) ?_
      refine ah_zret (v := nI 1) hx hb hr hlocks hR hS dX7_fitsAlone_42 (by decide) ?_
      first | exact ⟨by rw [if_pos (by unfold aloneP; first | (rw [if_pos ho]; omega) | (rw [if_neg ho]; omega))], rfl⟩ | exact ⟨by rw [if_neg (by unfold aloneP; first | (rw [if_pos ho]; omega) | (rw [if_neg ho]; omega))], rfl⟩

set_option maxHeartbeats 4000000 in
set_option maxRecDepth 100000 in
theorem c_Text_sevensEnd (l : Launch) (G : ah_G) (h : ah_H) (t ua tt tu n sv os : Nat) (f : Nat → Nat) (ft : h t = some (tt, .inr (6, [.ref ua, .int (nI n), .int (nI sv), .int (nI os)]))) (fu : h ua = some (tu, .inl (G.2.2.1 0, 3000, .inl (nA f)))) (hne : tt ≠ tu) (hn : n ≤ 3000) (hsv : sv < 2 ^ 30) (hos : os < 2 ^ 30) (hf : ∀ j, f j < 65536) (a : Nat) (ha : a ≤ n) : Met l yX7_sevensEnd wsX7_sevensEnd ({ frames := 3, cells := 0, slots := 0, locals := 63 }) (ah_Pc G [.ref t, .int (nI a)] h) (ah_Qi G (fun v h' => v = nI (sEnd f n (n - a + 1) a 153) ∧ h' = h)) 0 0 (ah_A G) := by
  refine ah_ofW (cc := cX7_sevensEnd) (maxL := 4) (ret := (some .int)) (by decide) rfl (Nat.le_of_ble_eq_true rfl) ?_
  intro p e s m below meth c ls hx hb hr hml hown hlocks hname hts hE hR hS hl
  have hown : s.vm.findClass RX7 = some m.cls := hown
  have hl : lv_has ls 4 [(0, .ref t), (1, .int (nI a))] := hl
  have k15 := hts (.fieldLink RX7 15 "TextParts$Text" "count" "I") (by decide +kernel)
  have hinX7 : ∀ w ∈ wsX70, w ∈ wsX7_sevensEnd := by decide +kernel
  refine lv_sipush (v := nI 153) hx hb dX7_sevensEnd_0 (by decide) ?_
  refine lv_istore_n (lv' := [(2, .int (nI 153)), (0, .ref t), (1, .int (nI a))]) hx hb dX7_sevensEnd_3 rfl hl (by decide) rfl (fun ls hl => ?_)
  refine lv_iload_n hx hb dX7_sevensEnd_4 rfl (lv_at hl 2 rfl) ?_
  refine lv_istore_n (lv' := [(3, .int (nI a)), (2, .int (nI 153)), (0, .ref t), (1, .int (nI a))]) hx hb dX7_sevensEnd_5 rfl hl (by decide) rfl (fun ls hl => ?_)
  have L6 : ∀ (N6 : Nat) (i : Nat) (q : Nat) (H : Heap) (locs : List Loc) (ls : Array Slot), n - i < N6 → (i ≤ n) → (q ≤ 153) → (sEnd f n (n - i + 1) i q = sEnd f n (n - a + 1) a 153) → (h t = some (tt, .inr (6, [.ref ua, .int (nI n), .int (nI sv), .int (nI os)]))) → (h ua = some (tu, .inl (G.2.2.1 0, 3000, .inl (nA f)))) → ah_R G h H → va_S (ah_A G) s.heap H locs → lv_has ls 4 [(3, .int (nI i)), (2, .int (nI q)), (0, .ref t), (1, .int (nI a))] → W p l e ({ frames := 3, cells := 0, slots := 0, locals := 63 }) s m ([.ref t, .int (nI a)] : List Value).toArray below meth c H locs 0 0 (MQ below (ah_Qi G (fun v h' => v = nI (sEnd f n (n - a + 1) a 153) ∧ h' = h)) ([.ref t, .int (nI a)] : List Value).toArray s 0 0 (ah_A G)) (F0 m 6 ls []) := by
    intro N6
    induction N6 with
    | zero => intro i q  H locs ls hN; exact absurd hN (Nat.not_lt_zero _)
    | succ N6 ih6 =>
      intro i q  H locs ls hN6 hi hq ei ft fu hR hS hl
      refine lv_iload_n hx hb dX7_sevensEnd_6 rfl (lv_at hl 0 rfl) ?_
      refine lv_aload_n hx hb dX7_sevensEnd_7 rfl (lv_at hl 2 rfl) ?_
      refine ah_get (ci := 6) (v := .int (nI n)) (C := RX7) (T := TX7) (N := 4) hx hb hE hR hts hinX7 hown ft rfl 1 (by decide) k15 (fun _ h9 => h9) rfl dX7_sevensEnd_8 ?_
      refine lv_icmp_ge (tgt := 37) hx hb dX7_sevensEnd_11 (by decide) (fun c_1 => ?_) (fun c_1 => ?_)
      · skip
        have c_1 : n ≤ i := (nI_leI (by omega) (by omega)).mp c_1
        refine lv_aload_n hx hb dX7_sevensEnd_37 rfl (lv_at hl 2 rfl) ?_
        refine ah_get (ci := 6) (v := .int (nI n)) (C := RX7) (T := TX7) (N := 4) hx hb hE hR hts hinX7 hown ft rfl 1 (by decide) k15 (fun _ h9 => h9) rfl dX7_sevensEnd_38 ?_
        refine ah_iret (v := nI n) hx hb hr hlocks hR hS dX7_sevensEnd_41 ?_
        exact ⟨by rw [← ei]; simp only [sEnd]; rw [if_pos (show n ≤ i by omega)], rfl⟩
      · skip
        have c_1 : ¬ (n ≤ i) := fun z9 => c_1 ((nI_leI (by omega) (by omega)).mpr z9)
        refine lv_iload_n hx hb dX7_sevensEnd_14 rfl (lv_at hl 1 rfl) ?_
        refine lv_aload_n hx hb dX7_sevensEnd_15 rfl (lv_at hl 2 rfl) ?_
        refine lv_iload_n hx hb dX7_sevensEnd_16 rfl (lv_at hl 0 rfl) ?_
        refine ah_calli (va_runV (As := [.int (nI i)]) (rest := [.int (nI q)]) ⟨hx, hb, hml, hown, hts⟩ (c_Text_unitAt l G h t ua tt tu n sv os f ft fu hne hn hsv hos hf i (by omega)) (cwV 1 hts gX7_sevensEnd_X7_unitAt rfl rfl rfl (by decide +kernel) ⟨Nat.le_of_ble_eq_true rfl, Nat.le_of_ble_eq_true rfl⟩) (ah_preV hE hR hS ft rfl) rfl rfl hl.1 rfl (lv_room (Nat.le_of_ble_eq_true rfl)) dX7_sevensEnd_17 ⟨Nat.le_of_ble_eq_true rfl, Nat.le_of_ble_eq_true rfl⟩) hS (fun r_4 h_2 H locs p_3 hR hS => ?_)
        obtain ⟨e_5, e_6⟩ := p_3
        rw [e_6] at hR
        refine ah_toi e_5 ?_
        have hfu := hf i
        refine ah_calli (va_runS (As := [.int (nI (f i))]) (rest := [.int (nI q)]) ⟨hx, hb, hml, hown, hts⟩ (c_sevensFor l G h (f i) (by omega)) (va_cwS 1 hts gX7_sevensEnd_X0_sevensFor rfl rfl rfl (by decide +kernel) ⟨Nat.le_of_ble_eq_true rfl, Nat.le_of_ble_eq_true rfl⟩) (ah_preS hE hR hS) rfl rfl hl.1 rfl (lv_room (Nat.le_of_ble_eq_true rfl)) dX7_sevensEnd_20 ⟨Nat.le_of_ble_eq_true rfl, Nat.le_of_ble_eq_true rfl⟩) hS (fun r_9 h_7 H locs p_8 hR hS => ?_)
        obtain ⟨e_10, e_11⟩ := p_8
        rw [e_11] at hR
        refine ah_toi e_10 ?_
        have hsf := svFor_le (f i)
        by_cases hlt : q < svFor (f i)
        · skip
          refine lv_isub hx hb dX7_sevensEnd_23 ?_
          refine lv_istore_n (lv' := [(2, .int ((nI q) - (nI (svFor (f i))))), (3, .int (nI i)), (0, .ref t), (1, .int (nI a))]) hx hb dX7_sevensEnd_24 rfl hl (by decide) rfl (fun ls hl => ?_)
          refine lv_iload_n hx hb dX7_sevensEnd_25 rfl (lv_at hl 0 rfl) ?_
          refine lv_if_ge (tgt := 31) hx hb dX7_sevensEnd_26 (by decide) (fun c_12 => ?_) (fun c_12 => ?_)
          · skip
            exact absurd c_12 (Int32.not_le.mpr (pk_sneg (by omega) hlt))
          · skip
            refine lv_iload_n hx hb dX7_sevensEnd_29 rfl (lv_at hl 1 rfl) ?_
            refine ah_iret (v := nI i) hx hb hr hlocks hR hS dX7_sevensEnd_30 ?_
            exact ⟨by rw [← ei]; simp only [sEnd]; rw [if_neg (show ¬ n ≤ i by omega), if_pos hlt], rfl⟩
        · skip
          refine lv_isub hx hb dX7_sevensEnd_23 ?_
          refine ah_toi (v := nI (q - svFor (f i))) (pk_sub (by omega)) ?_
          refine lv_istore_n (lv' := [(2, .int (nI (q - svFor (f i)))), (3, .int (nI i)), (0, .ref t), (1, .int (nI a))]) hx hb dX7_sevensEnd_24 rfl hl (by decide) rfl (fun ls hl => ?_)
          refine lv_iload_n hx hb dX7_sevensEnd_25 rfl (lv_at hl 0 rfl) ?_
          refine lv_if_ge (tgt := 31) hx hb dX7_sevensEnd_26 (by decide) (fun c_13 => ?_) (fun c_13 => ?_)
          · skip
            refine lv_iinc (v := nI (i + 1)) (lv' := [(3, .int (nI (i + 1))), (2, .int (nI (q - svFor (f i)))), (0, .ref t), (1, .int (nI a))]) hx hb dX7_sevensEnd_31 hl (k := 1) rfl (show nI i + Int32.ofInt 1 = nI (i + 1) from nI_add _ 1) (by decide) rfl (fun ls hl => ?_)
            refine lv_goto (tgt := 6) hx hb dX7_sevensEnd_34 (by decide) ?_
            exact ih6  (i + 1) (q - svFor (f i)) _ _ ls (by omega) (by omega) (by omega) (by rw [← ei]; show _ = sEnd f n (n - i + 1) i q; rw [show n - i + 1 = n - (i + 1) + 1 + 1 by omega]; simp only [sEnd]; rw [if_neg (show ¬ n ≤ i by omega), if_neg hlt]) ft fu hR hS (lv_sub hl [0, 1, 2, 3] rfl)
          · skip
            exact absurd (nI_pos' (by omega)) c_13
  exact L6 ((n - a) + 1) a 153 _ _ ls (by omega) (by omega) (by omega) rfl ft fu hR hS (lv_sub hl [0, 1, 2, 3] rfl)

set_option maxHeartbeats 4000000 in
set_option maxRecDepth 100000 in
theorem c_Text_pairsEnd (l : Launch) (G : ah_G) (h : ah_H) (t ua tt tu n sv os : Nat) (f : Nat → Nat) (ft : h t = some (tt, .inr (6, [.ref ua, .int (nI n), .int (nI sv), .int (nI os)]))) (fu : h ua = some (tu, .inl (G.2.2.1 0, 3000, .inl (nA f)))) (hne : tt ≠ tu) (hn : n ≤ 3000) (hsv : sv < 2 ^ 30) (hos : os < 2 ^ 30) (hf : ∀ j, f j < 65536) (a : Nat) (ha : a ≤ n) : Met l yX7_pairsEnd wsX7_pairsEnd ({ frames := 1, cells := 0, slots := 0, locals := 21 }) (ah_Pc G [.ref t, .int (nI a)] h) (ah_Qi G (fun v h' => v = nI (pEnd f n a) ∧ h' = h)) 0 0 (ah_A G) := by
  refine ah_ofW (cc := cX7_pairsEnd) (maxL := 3) (ret := (some .int)) (by decide) rfl (Nat.le_of_ble_eq_true rfl) ?_
  intro p e s m below meth c ls hx hb hr hml hown hlocks hname hts hE hR hS hl
  have hown : s.vm.findClass RX7 = some m.cls := hown
  have hl : lv_has ls 3 [(0, .ref t), (1, .int (nI a))] := hl
  have k15 := hts (.fieldLink RX7 15 "TextParts$Text" "count" "I") (by decide +kernel)
  have hinX7 : ∀ w ∈ wsX70, w ∈ wsX7_pairsEnd := by decide +kernel
  refine lv_iload_n hx hb dX7_pairsEnd_0 rfl (lv_at hl 1 rfl) ?_
  refine lv_bipush (v := nI 67) hx hb dX7_pairsEnd_1 (by decide) ?_
  refine lv_iadd hx hb dX7_pairsEnd_3 ?_
  refine ah_toi (v := nI (a + 67)) (nI_add _ _) ?_
  refine lv_istore_n (lv' := [(2, .int (nI (a + 67))), (0, .ref t), (1, .int (nI a))]) hx hb dX7_pairsEnd_4 rfl hl (by decide) rfl (fun ls hl => ?_)
  refine lv_iload_n hx hb dX7_pairsEnd_5 rfl (lv_at hl 0 rfl) ?_
  refine lv_aload_n hx hb dX7_pairsEnd_6 rfl (lv_at hl 1 rfl) ?_
  refine ah_get (ci := 6) (v := .int (nI n)) (C := RX7) (T := TX7) (N := 4) hx hb hE hR hts hinX7 hown ft rfl 1 (by decide) k15 (fun _ h9 => h9) rfl dX7_pairsEnd_7 ?_
  refine lv_icmp_lt (tgt := 18) hx hb dX7_pairsEnd_10 (by decide) (fun c_1 => ?_) (fun c_1 => ?_)
  · skip
    have c_1 : (a + 67) < n := (nI_ltI (by omega) (by omega)).mp c_1
    refine lv_aload_n hx hb dX7_pairsEnd_18 rfl (lv_at hl 1 rfl) ?_
    refine lv_iload_n hx hb dX7_pairsEnd_19 rfl (lv_at hl 0 rfl) ?_
    refine lv_iconst (v := nI 1) hx hb dX7_pairsEnd_20 (by decide) ?_
    refine lv_isub hx hb dX7_pairsEnd_21 ?_
    refine ah_toi (v := nI ((a + 67) - 1)) (pk_sub (by omega)) ?_
    refine ah_calli (va_runV (As := [.int (nI ((a + 67) - 1))]) (rest := []) ⟨hx, hb, hml, hown, hts⟩ (c_Text_unitAt l G h t ua tt tu n sv os f ft fu hne hn hsv hos hf ((a + 67) - 1) (by omega)) (cwV 1 hts gX7_pairsEnd_X7_unitAt rfl rfl rfl (by decide +kernel) ⟨Nat.le_of_ble_eq_true rfl, Nat.le_of_ble_eq_true rfl⟩) (ah_preV hE hR hS ft rfl) rfl rfl hl.1 rfl (lv_room (Nat.le_of_ble_eq_true rfl)) dX7_pairsEnd_22 ⟨Nat.le_of_ble_eq_true rfl, Nat.le_of_ble_eq_true rfl⟩) hS (fun r_4 h_2 H locs p_3 hR hS => ?_)
    obtain ⟨e_5, e_6⟩ := p_3
    rw [e_6] at hR
    refine ah_toi e_5 ?_
    have hfu := hf ((a + 67) - 1)
    refine ah_calli (va_runS (As := [.int (nI (f ((a + 67) - 1)))]) (rest := []) ⟨hx, hb, hml, hown, hts⟩ (c_Text_isHigh l G h (f ((a + 67) - 1)) (by omega)) (va_cwS 1 hts gX7_pairsEnd_X7_isHigh rfl rfl rfl (by decide +kernel) ⟨Nat.le_of_ble_eq_true rfl, Nat.le_of_ble_eq_true rfl⟩) (ah_preS hE hR hS) rfl rfl hl.1 rfl (lv_room (Nat.le_of_ble_eq_true rfl)) dX7_pairsEnd_25 ⟨Nat.le_of_ble_eq_true rfl, Nat.le_of_ble_eq_true rfl⟩) hS (fun r_9 h_7 H locs p_8 hR hS => ?_)
    obtain ⟨e_10, e_11⟩ := p_8
    rw [e_11] at hR
    refine ah_toi e_10 ?_
    have h01a : (if hiP (f ((a + 67) - 1)) then 1 else 0) < 2 ^ 31 := if10
    refine lv_if_eq (tgt := 48) hx hb dX7_pairsEnd_28 (by decide) (fun c_12 => ?_) (fun c_12 => ?_)
    · skip
      have c_12 : (if hiP (f ((a + 67) - 1)) then 1 else 0) = 0 := (zi_eq (by omega)).mp c_12
      have hno := if10f c_12
      refine lv_iload_n hx hb dX7_pairsEnd_48 rfl (lv_at hl 0 rfl) ?_
      refine ah_iret (v := nI (a + 67)) hx hb hr hlocks hR hS dX7_pairsEnd_49 ?_
      exact ⟨by unfold pEnd; rw [if_neg (by omega), if_neg (fun z => hno z.1)], rfl⟩
    · skip
      have c_12 : ¬ ((if hiP (f ((a + 67) - 1)) then 1 else 0) = 0) := fun z9 => c_12 ((zi_eq (by omega)).mpr z9)
      have hh := if10t c_12
      refine lv_aload_n hx hb dX7_pairsEnd_31 rfl (lv_at hl 1 rfl) ?_
      refine lv_iload_n hx hb dX7_pairsEnd_32 rfl (lv_at hl 0 rfl) ?_
      refine ah_calli (va_runV (As := [.int (nI (a + 67))]) (rest := []) ⟨hx, hb, hml, hown, hts⟩ (c_Text_unitAt l G h t ua tt tu n sv os f ft fu hne hn hsv hos hf (a + 67) (by omega)) (cwV 1 hts gX7_pairsEnd_X7_unitAt rfl rfl rfl (by decide +kernel) ⟨Nat.le_of_ble_eq_true rfl, Nat.le_of_ble_eq_true rfl⟩) (ah_preV hE hR hS ft rfl) rfl rfl hl.1 rfl (lv_room (Nat.le_of_ble_eq_true rfl)) dX7_pairsEnd_33 ⟨Nat.le_of_ble_eq_true rfl, Nat.le_of_ble_eq_true rfl⟩) hS (fun r_15 h_13 H locs p_14 hR hS => ?_)
      obtain ⟨e_16, e_17⟩ := p_14
      rw [e_17] at hR
      refine ah_toi e_16 ?_
      have hfu := hf (a + 67)
      refine ah_calli (va_runS (As := [.int (nI (f (a + 67)))]) (rest := []) ⟨hx, hb, hml, hown, hts⟩ (c_Text_isLow l G h (f (a + 67)) (by omega)) (va_cwS 1 hts gX7_pairsEnd_X7_isLow rfl rfl rfl (by decide +kernel) ⟨Nat.le_of_ble_eq_true rfl, Nat.le_of_ble_eq_true rfl⟩) (ah_preS hE hR hS) rfl rfl hl.1 rfl (lv_room (Nat.le_of_ble_eq_true rfl)) dX7_pairsEnd_36 ⟨Nat.le_of_ble_eq_true rfl, Nat.le_of_ble_eq_true rfl⟩) hS (fun r_20 h_18 H locs p_19 hR hS => ?_)
      obtain ⟨e_21, e_22⟩ := p_19
      rw [e_22] at hR
      refine ah_toi e_21 ?_
      have h01b : (if loP (f (a + 67)) then 1 else 0) < 2 ^ 31 := if10
      refine lv_if_eq (tgt := 48) hx hb dX7_pairsEnd_39 (by decide) (fun c_23 => ?_) (fun c_23 => ?_)
      · skip
        have c_23 : (if loP (f (a + 67)) then 1 else 0) = 0 := (zi_eq (by omega)).mp c_23
        have hno := if10f c_23
        refine lv_iload_n hx hb dX7_pairsEnd_48 rfl (lv_at hl 0 rfl) ?_
        refine ah_iret (v := nI (a + 67)) hx hb hr hlocks hR hS dX7_pairsEnd_49 ?_
        exact ⟨by unfold pEnd; rw [if_neg (by omega), if_neg (fun z => hno z.2)], rfl⟩
      · skip
        have c_23 : ¬ ((if loP (f (a + 67)) then 1 else 0) = 0) := fun z9 => c_23 ((zi_eq (by omega)).mpr z9)
        have hlo := if10t c_23
        refine lv_iload_n hx hb dX7_pairsEnd_42 rfl (lv_at hl 0 rfl) ?_
        refine lv_iconst (v := nI 1) hx hb dX7_pairsEnd_43 (by decide) ?_
        refine lv_isub hx hb dX7_pairsEnd_44 ?_
        refine ah_toi (v := nI ((a + 67) - 1)) (pk_sub (by omega)) ?_
        refine lv_goto (tgt := 49) hx hb dX7_pairsEnd_45 (by decide) ?_
        refine ah_iret (v := nI ((a + 67) - 1)) hx hb hr hlocks hR hS dX7_pairsEnd_49 ?_
        exact ⟨by unfold pEnd; rw [if_neg (by omega), if_pos ⟨hh, hlo⟩], rfl⟩
  · skip
    have c_1 : ¬ ((a + 67) < n) := fun z9 => c_1 ((nI_ltI (by omega) (by omega)).mpr z9)
    refine lv_aload_n hx hb dX7_pairsEnd_13 rfl (lv_at hl 1 rfl) ?_
    refine ah_get (ci := 6) (v := .int (nI n)) (C := RX7) (T := TX7) (N := 4) hx hb hE hR hts hinX7 hown ft rfl 1 (by decide) k15 (fun _ h9 => h9) rfl dX7_pairsEnd_14 ?_
    refine ah_iret (v := nI n) hx hb hr hlocks hR hS dX7_pairsEnd_17 ?_
    exact ⟨by unfold pEnd; rw [if_pos (by omega)], rfl⟩

set_option maxHeartbeats 4000000 in
set_option maxRecDepth 100000 in
theorem c_Text_partEnd (l : Launch) (G : ah_G) (h : ah_H) (t ua tt tu n sv os : Nat) (f : Nat → Nat) (ft : h t = some (tt, .inr (6, [.ref ua, .int (nI n), .int (nI sv), .int (nI os)]))) (fu : h ua = some (tu, .inl (G.2.2.1 0, 3000, .inl (nA f)))) (hne : tt ≠ tu) (hn : n ≤ 3000) (hsv : sv < 2 ^ 30) (hos : os < 2 ^ 30) (hf : ∀ j, f j < 65536) (a : Nat) (ha : a ≤ n) : Met l yX7_partEnd wsX7_partEnd ({ frames := 4, cells := 0, slots := 0, locals := 86 }) (ah_Pc G [.ref t, .int (nI a)] h) (ah_Qi G (fun v h' => v = nI (tEnd f n os a) ∧ h' = h)) 0 0 (ah_A G) := by
  refine ah_ofW (cc := cX7_partEnd) (maxL := 2) (ret := (some .int)) (by decide) rfl (Nat.le_of_ble_eq_true rfl) ?_
  intro p e s m below meth c ls hx hb hr hml hown hlocks hname hts hE hR hS hl
  have hown : s.vm.findClass RX7 = some m.cls := hown
  have hl : lv_has ls 2 [(0, .ref t), (1, .int (nI a))] := hl
  refine lv_aload_n hx hb dX7_partEnd_0 rfl (lv_at hl 0 rfl) ?_
  refine ah_calli (va_runV (As := []) (rest := []) ⟨hx, hb, hml, hown, hts⟩ (c_Text_inAlphabet l G h t ua tt tu n sv os f ft fu hne hn hsv hos hf) (cwV 0 hts gX7_partEnd_X7_inAlphabet rfl rfl rfl (by decide +kernel) ⟨Nat.le_of_ble_eq_true rfl, Nat.le_of_ble_eq_true rfl⟩) (ah_preV hE hR hS ft rfl) rfl rfl hl.1 rfl (lv_room (Nat.le_of_ble_eq_true rfl)) dX7_partEnd_1 ⟨Nat.le_of_ble_eq_true rfl, Nat.le_of_ble_eq_true rfl⟩) hS (fun r_3 h_1 H locs p_2 hR hS => ?_)
  obtain ⟨e_4, e_5⟩ := p_2
  rw [e_5] at hR
  refine ah_toi e_4 ?_
  have h01 : (if os = 0 then 1 else 0) < 2 ^ 31 := if10
  refine lv_if_eq (tgt := 15) hx hb dX7_partEnd_4 (by decide) (fun c_6 => ?_) (fun c_6 => ?_)
  · skip
    have c_6 : (if os = 0 then 1 else 0) = 0 := (zi_eq (by omega)).mp c_6
    have ho := if10f c_6
    refine lv_aload_n hx hb dX7_partEnd_15 rfl (lv_at hl 0 rfl) ?_
    refine lv_iload_n hx hb dX7_partEnd_16 rfl (lv_at hl 1 rfl) ?_
    refine ah_calli (va_runV (As := [.int (nI a)]) (rest := []) ⟨hx, hb, hml, hown, hts⟩ (c_Text_pairsEnd l G h t ua tt tu n sv os f ft fu hne hn hsv hos hf a ha) (cwV 1 hts gX7_partEnd_X7_pairsEnd rfl rfl rfl (by decide +kernel) ⟨Nat.le_of_ble_eq_true rfl, Nat.le_of_ble_eq_true rfl⟩) (ah_preV hE hR hS ft rfl) rfl rfl hl.1 rfl (lv_room (Nat.le_of_ble_eq_true rfl)) dX7_partEnd_17 ⟨Nat.le_of_ble_eq_true rfl, Nat.le_of_ble_eq_true rfl⟩) hS (fun r_9 h_7 H locs p_8 hR hS => ?_)
    obtain ⟨e_10, e_11⟩ := p_8
    rw [e_11] at hR
    refine ah_toi e_10 ?_
    refine ah_iret (v := nI (pEnd f n a)) hx hb hr hlocks hR hS dX7_partEnd_20 ?_
    exact ⟨by unfold tEnd; rw [if_neg ho], rfl⟩
  · skip
    have c_6 : ¬ ((if os = 0 then 1 else 0) = 0) := fun z9 => c_6 ((zi_eq (by omega)).mpr z9)
    have ho := if10t c_6
    refine lv_aload_n hx hb dX7_partEnd_7 rfl (lv_at hl 0 rfl) ?_
    refine lv_iload_n hx hb dX7_partEnd_8 rfl (lv_at hl 1 rfl) ?_
    refine ah_calli (va_runV (As := [.int (nI a)]) (rest := []) ⟨hx, hb, hml, hown, hts⟩ (c_Text_sevensEnd l G h t ua tt tu n sv os f ft fu hne hn hsv hos hf a ha) (cwV 1 hts gX7_partEnd_X7_sevensEnd rfl rfl rfl (by decide +kernel) ⟨Nat.le_of_ble_eq_true rfl, Nat.le_of_ble_eq_true rfl⟩) (ah_preV hE hR hS ft rfl) rfl rfl hl.1 rfl (lv_room (Nat.le_of_ble_eq_true rfl)) dX7_partEnd_9 ⟨Nat.le_of_ble_eq_true rfl, Nat.le_of_ble_eq_true rfl⟩) hS (fun r_14 h_12 H locs p_13 hR hS => ?_)
    obtain ⟨e_15, e_16⟩ := p_13
    rw [e_16] at hR
    refine ah_toi e_15 ?_
    refine lv_goto (tgt := 20) hx hb dX7_partEnd_12 (by decide) ?_
    refine ah_iret (v := nI (sEnd f n (n - a + 1) a 153)) hx hb hr hlocks hR hS dX7_partEnd_20 ?_
    exact ⟨by unfold tEnd; rw [if_pos ho], rfl⟩

set_option maxHeartbeats 4000000 in
set_option maxRecDepth 100000 in
theorem c_Text_partCount (l : Launch) (G : ah_G) (h : ah_H) (t ua tt tu n sv os : Nat) (f : Nat → Nat) (ft : h t = some (tt, .inr (6, [.ref ua, .int (nI n), .int (nI sv), .int (nI os)]))) (fu : h ua = some (tu, .inl (G.2.2.1 0, 3000, .inl (nA f)))) (hne : tt ≠ tu) (hn : n ≤ 3000) (hsv : sv < 2 ^ 30) (hos : os < 2 ^ 30) (hf : ∀ j, f j < 65536) : Met l yX7_partCount wsX7_partCount ({ frames := 5, cells := 0, slots := 0, locals := 107 }) (ah_Pc G [.ref t] h) (ah_Qi G (fun v h' => v = nI (tParts f n sv os) ∧ h' = h)) 0 0 (ah_A G) := by
  refine ah_ofW (cc := cX7_partCount) (maxL := 3) (ret := (some .int)) (by decide) rfl (Nat.le_of_ble_eq_true rfl) ?_
  intro p e s m below meth c ls hx hb hr hml hown hlocks hname hts hE hR hS hl
  have hown : s.vm.findClass RX7 = some m.cls := hown
  have hl : lv_has ls 3 [(0, .ref t)] := hl
  have k15 := hts (.fieldLink RX7 15 "TextParts$Text" "count" "I") (by decide +kernel)
  have hinX7 : ∀ w ∈ wsX70, w ∈ wsX7_partCount := by decide +kernel
  refine lv_aload_n hx hb dX7_partCount_0 rfl (lv_at hl 0 rfl) ?_
  refine ah_calli (va_runV (As := []) (rest := []) ⟨hx, hb, hml, hown, hts⟩ (c_Text_fitsAlone l G h t ua tt tu n sv os f ft fu hne hn hsv hos hf) (cwV 0 hts gX7_partCount_X7_fitsAlone rfl rfl rfl (by decide +kernel) ⟨Nat.le_of_ble_eq_true rfl, Nat.le_of_ble_eq_true rfl⟩) (ah_preV hE hR hS ft rfl) rfl rfl hl.1 rfl (lv_room (Nat.le_of_ble_eq_true rfl)) dX7_partCount_1 ⟨Nat.le_of_ble_eq_true rfl, Nat.le_of_ble_eq_true rfl⟩) hS (fun r_3 h_1 H locs p_2 hR hS => ?_)
  obtain ⟨e_4, e_5⟩ := p_2
  rw [e_5] at hR
  refine ah_toi e_4 ?_
  have h01 : (if aloneP n sv os then 1 else 0) < 2 ^ 31 := if10
  refine lv_if_eq (tgt := 9) hx hb dX7_partCount_4 (by decide) (fun c_6 => ?_) (fun c_6 => ?_)
  · skip
    have c_6 : (if aloneP n sv os then 1 else 0) = 0 := (zi_eq (by omega)).mp c_6
    have hal := if10f c_6
    refine lv_iconst (v := nI 0) hx hb dX7_partCount_9 (by decide) ?_
    refine lv_istore_n (lv' := [(1, .int (nI 0)), (0, .ref t)]) hx hb dX7_partCount_10 rfl hl (by decide) rfl (fun ls hl => ?_)
    refine lv_iconst (v := nI 0) hx hb dX7_partCount_11 (by decide) ?_
    refine lv_istore_n (lv' := [(2, .int (nI 0)), (1, .int (nI 0)), (0, .ref t)]) hx hb dX7_partCount_12 rfl hl (by decide) rfl (fun ls hl => ?_)
    have L13 : ∀ (N13 : Nat) (k : Nat) (a : Nat) (H : Heap) (locs : List Loc) (ls : Array Slot), 256 - k < N13 → (k ≤ 256) → (a ≤ n) → (pcR (tEnd f n os) n (256 - k) k a = pcR (tEnd f n os) n 256 0 0) → (h t = some (tt, .inr (6, [.ref ua, .int (nI n), .int (nI sv), .int (nI os)]))) → (h ua = some (tu, .inl (G.2.2.1 0, 3000, .inl (nA f)))) → ah_R G h H → va_S (ah_A G) s.heap H locs → lv_has ls 3 [(2, .int (nI k)), (1, .int (nI a)), (0, .ref t)] → W p l e ({ frames := 5, cells := 0, slots := 0, locals := 107 }) s m ([.ref t] : List Value).toArray below meth c H locs 0 0 (MQ below (ah_Qi G (fun v h' => v = nI (tParts f n sv os) ∧ h' = h)) ([.ref t] : List Value).toArray s 0 0 (ah_A G)) (F0 m 13 ls []) := by
      intro N13
      induction N13 with
      | zero => intro k a  H locs ls hN; exact absurd hN (Nat.not_lt_zero _)
      | succ N13 ih13 =>
        intro k a  H locs ls hN13 hk ha ek ft fu hR hS hl
        refine lv_iload_n hx hb dX7_partCount_13 rfl (lv_at hl 0 rfl) ?_
        refine lv_sipush (v := nI 255) hx hb dX7_partCount_14 (by decide) ?_
        refine lv_icmp_gt (tgt := 42) hx hb dX7_partCount_17 (by decide) (fun c_7 => ?_) (fun c_7 => ?_)
        · skip
          have c_7 : 255 < k := (nI_ltI (by omega) (by omega)).mp c_7
          refine lv_iconst (v := nI 0) hx hb dX7_partCount_42 (by decide) ?_
          refine ah_iret (v := nI 0) hx hb hr hlocks hR hS dX7_partCount_43 ?_
          exact ⟨by unfold tParts; rw [if_neg hal, ← ek, show 256 - k = 0 by omega]; rfl, rfl⟩
        · skip
          have c_7 : ¬ (255 < k) := fun z9 => c_7 ((nI_ltI (by omega) (by omega)).mpr z9)
          refine lv_iload_n hx hb dX7_partCount_20 rfl (lv_at hl 1 rfl) ?_
          refine lv_aload_n hx hb dX7_partCount_21 rfl (lv_at hl 2 rfl) ?_
          refine ah_get (ci := 6) (v := .int (nI n)) (C := RX7) (T := TX7) (N := 4) hx hb hE hR hts hinX7 hown ft rfl 1 (by decide) k15 (fun _ h9 => h9) rfl dX7_partCount_22 ?_
          refine lv_icmp_lt (tgt := 30) hx hb dX7_partCount_25 (by decide) (fun c_8 => ?_) (fun c_8 => ?_)
          · skip
            have c_8 : a < n := (nI_ltI (by omega) (by omega)).mp c_8
            refine lv_aload_n hx hb dX7_partCount_30 rfl (lv_at hl 2 rfl) ?_
            refine lv_iload_n hx hb dX7_partCount_31 rfl (lv_at hl 1 rfl) ?_
            refine ah_calli (va_runV (As := [.int (nI a)]) (rest := []) ⟨hx, hb, hml, hown, hts⟩ (c_Text_partEnd l G h t ua tt tu n sv os f ft fu hne hn hsv hos hf a ha) (cwV 1 hts gX7_partCount_X7_partEnd rfl rfl rfl (by decide +kernel) ⟨Nat.le_of_ble_eq_true rfl, Nat.le_of_ble_eq_true rfl⟩) (ah_preV hE hR hS ft rfl) rfl rfl hl.1 rfl (lv_room (Nat.le_of_ble_eq_true rfl)) dX7_partCount_32 ⟨Nat.le_of_ble_eq_true rfl, Nat.le_of_ble_eq_true rfl⟩) hS (fun r_11 h_9 H locs p_10 hR hS => ?_)
            obtain ⟨e_12, e_13⟩ := p_10
            rw [e_13] at hR
            refine ah_toi e_12 ?_
            refine lv_istore_n (lv' := [(1, .int (nI (tEnd f n os a))), (2, .int (nI k)), (0, .ref t)]) hx hb dX7_partCount_35 rfl hl (by decide) rfl (fun ls hl => ?_)
            refine lv_iinc (v := nI (k + 1)) (lv' := [(2, .int (nI (k + 1))), (1, .int (nI (tEnd f n os a))), (0, .ref t)]) hx hb dX7_partCount_36 hl (k := 1) rfl (show nI k + Int32.ofInt 1 = nI (k + 1) from nI_add _ 1) (by decide) rfl (fun ls hl => ?_)
            refine lv_goto (tgt := 13) hx hb dX7_partCount_39 (by decide) ?_
            exact ih13  (k + 1) (tEnd f n os a) _ _ ls (by omega) (by omega) (tEnd_le ha) (by rw [← ek, show 256 - k = 256 - (k + 1) + 1 by omega]; simp only [pcR]; rw [if_neg (show ¬ n ≤ a by omega)]) ft fu hR hS (lv_sub hl [0, 1, 2] rfl)
          · skip
            have c_8 : ¬ (a < n) := fun z9 => c_8 ((nI_ltI (by omega) (by omega)).mpr z9)
            refine lv_iload_n hx hb dX7_partCount_28 rfl (lv_at hl 0 rfl) ?_
            refine ah_iret (v := nI k) hx hb hr hlocks hR hS dX7_partCount_29 ?_
            exact ⟨by unfold tParts; rw [if_neg hal, ← ek, show 256 - k = 256 - (k + 1) + 1 by omega]; simp only [pcR]; rw [if_pos (show n ≤ a by omega)], rfl⟩
    exact L13 ((256 - 0) + 1) 0 0 _ _ ls (by omega) (by omega) (by omega) rfl ft fu hR hS (lv_sub hl [0, 1, 2] rfl)
  · skip
    have c_6 : ¬ ((if aloneP n sv os then 1 else 0) = 0) := fun z9 => c_6 ((zi_eq (by omega)).mpr z9)
    have hal := if10t c_6
    refine lv_iconst (v := nI 1) hx hb dX7_partCount_7 (by decide) ?_
    refine ah_iret (v := nI 1) hx hb hr hlocks hR hS dX7_partCount_8 ?_
    exact ⟨by unfold tParts; rw [if_pos hal], rfl⟩
end
