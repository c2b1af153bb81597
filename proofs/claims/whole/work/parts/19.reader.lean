/-! ===== TextParts$PartReader ===== -/
section AHC
variable {p : Program} {l : Launch} {e : Env} {R : Room} {s : State} {m : MethodId} {args : Array Value} {below : List Frame} {meth : Method} {c : Code} {H : Heap} {locs : List Loc} {cells slots : Nat} {Q : State → Prop}
variable {cc : ByteArray} {pc : Nat} {ls : Array Slot} {rest : List Value} {G : ah_G} {h : ah_H}
/-- System.arraycopy of ints, from 0 to 0 -/
theorem ah_copyi (hx : p.tables.exec = Jvm.exec) (hb : c.code = cc) (hml : c.maxLocals = ls.size) (hE : ah_E G s) (hR : ah_R G h H) (hS : va_S (ah_A G) s.heap H locs) {own : String} {index : Nat} (hown : s.vm.findClass own = some m.cls) (hlink : (Cond.methodLink own index arraycopyName).before args s = true) (hnat : (Cond.native arraycopyName).before args s = true) (hstat : (Cond.static arraycopyName).before args s = true) (hini : (Cond.initialized "java/lang/System").before args s = true)
    {a0 a1 t0 t1 n0 n1 k : Nat} {f g : Nat → Int32} (h0 : h a0 = some (t0, .inl (G.2.2.1 0, n0, .inl f))) (h1 : h a1 = some (t1, .inl (G.2.2.1 0, n1, .inl g))) (hk0 : k ≤ n0) (hk1 : k ≤ n1) (hk : k < 2 ^ 31)
    (hframes : 1 ≤ R.frames) (hlocals : (rest.map fun v => v.category).sum + (nativeFrameWords "java/lang/System" "arraycopy" 5 + 11) ≤ R.locals) (hdg : decode cc pc = .ok (.invokestatic index, 3))
    (kk : ∀ (H1 : Heap) (locs1 : List Loc), ah_R G (ah_up h a1 (t1, .inl (G.2.2.1 0, n1, .inl (va_cpy f g 0 0 k)))) H1 → va_S (ah_A G) s.heap H1 locs1 → W p l e R s m args below meth c H1 locs1 cells slots Q (F0 m (pc + 3) ls rest)) : W p l e R s m args below meth c H locs cells slots Q (F0 m pc ls (.int (nI k) :: .int (nI 0) :: .ref a1 :: .int (nI 0) :: .ref a0 :: rest)) := by
  obtain ⟨ws, hP, hD, hcv⟩ := hR
  obtain ⟨q0, e0⟩ := hcv a0 t0 _ h0
  obtain ⟨q1, e1⟩ := hcv a1 t1 _ h1
  have z0 : (nI 0).toNatClampNeg = 0 := nI_clamp (by omega)
  refine va_copyi hx hb hml hown hlink hnat hstat hini hE.2.1 hP hD hS q0 q1 0 0 e0 e1 rfl rfl rfl (nI_pos (by omega)) (nI_pos (by omega)) (nI_pos hk) (by rw [z0, nI_clamp hk]; omega) (by rw [z0, nI_clamp hk]; omega) (fun i _ => rfl) hframes hlocals hdg (fun H1 locs1 hP1 hD1 hS1 => ?_)
  rw [z0, nI_clamp hk] at hP1 hD1
  exact kk H1 locs1 ⟨_, hP1, hD1, ah_cset hcv e1⟩ hS1
theorem ah_cI (hE : ah_E G s) : s.vm.findClass "[I" = some (G.2.2.1 0) := (hE.2.1.2 0 (G.2.2.1 0, .int) rfl).2
theorem ah_clonei (hx : p.tables.exec = Jvm.exec) (hb : c.code = cc) (hml : c.maxLocals = ls.size) (hE : ah_E G s) (hR : ah_R G h H) (hS : va_S (ah_A G) s.heap H locs) {own : String} {index : Nat} (hown : s.vm.findClass own = some m.cls)
    (hlink : (Cond.methodLink own index ⟨"[I", "clone", "()Ljava/lang/Object;"⟩).before args s = true) (hsame : (Cond.sameMethod "[I" "java/lang/Object" "clone" "()Ljava/lang/Object;").before args s = true)
    (hnat : (Cond.native ⟨"java/lang/Object", "clone", "()Ljava/lang/Object;"⟩).before args s = true) (hinst : (Cond.instanceMethod ⟨"java/lang/Object", "clone", "()Ljava/lang/Object;"⟩).before args s = true)
    (hsel : (Cond.selects "[I" ⟨"[I", "clone", "()Ljava/lang/Object;"⟩ ⟨"java/lang/Object", "clone", "()Ljava/lang/Object;"⟩).before args s = true)
    {a0 t0 n0 : Nat} {f : Nat → Int32} (h0 : h a0 = some (t0, .inl (G.2.2.1 0, n0, .inl f))) (t : Nat)
    (hframes : 1 ≤ R.frames) (hlocals : (rest.map fun v => v.category).sum + 14 ≤ R.locals) (hcells : cells + 1 ≤ R.cells) (hslots : slots + n0 ≤ R.slots) (hdg : decode cc pc = .ok (.invokevirtual index, 3))
    (kk : ∀ (q : Nat) (H1 : Heap), h q = none → ah_R G (ah_up h q (t, .inl (G.2.2.1 0, n0, .inl f))) H1 → va_S (ah_A G) s.heap H1 locs → W p l e R s m args below meth c H1 locs (cells + 1) (slots + n0) Q (F0 m (pc + 3) ls (.ref q :: rest))) : W p l e R s m args below meth c H locs cells slots Q (F0 m pc ls (.ref a0 :: rest)) := by
  obtain ⟨ws, hP, hD, hcv⟩ := hR
  obtain ⟨q0, e0⟩ := hcv a0 t0 _ h0
  refine va_clone hx hb hml hown hlink hsame hnat hinst hsel hE.2.2.2.1.2.2.2.2.2.2 hE.2.1 hP hD hS hE.A q0 0 (ty := .int) e0 rfl (ah_cI hE) ?_ hframes hlocals hcells hslots hdg (fun q H1 _ hP1 hD1 hS1 => kk q H1 (ah_fresh hcv hD1) ⟨_, hP1, hD1, ah_cpush hcv⟩ hS1)
  intro i v hv
  rw [vp_cell_i] at hv
  have hi : i < n0 := by
    have := (Array.getElem?_eq_some_iff.mp hv).1
    rwa [arrV_size] at this
  rw [arrV_read _ _ hi] at hv
  cases hv
  rfl
theorem ah_castA (hx : p.tables.exec = Jvm.exec) (hb : c.code = cc) (hE : ah_E G s) (hR : ah_R G h H) {own : String} {index : Nat} (hown : s.vm.findClass own = some m.cls) (hlink : (Cond.classLink own index "[I").before args s = true) {a0 t0 n0 : Nat} {f : Nat → Int32} (h0 : h a0 = some (t0, .inl (G.2.2.1 0, n0, .inl f))) (hdg : decode cc pc = .ok (.checkcast index, 3))
    (k : W p l e R s m args below meth c H locs cells slots Q (F0 m (pc + 3) ls (.ref a0 :: rest))) : W p l e R s m args below meth c H locs cells slots Q (F0 m pc ls (.ref a0 :: rest)) := by
  obtain ⟨ws, hP, hD, hcv⟩ := hR
  obtain ⟨q0, e0⟩ := hcv a0 t0 _ h0
  exact va_castA hx hb hown hlink hP q0 e0 (ah_cI hE) hdg k
end AHC
abbrev wszP (bp el k : Nat) : Prop := if bp = 0 then (160 < el ∨ k ≠ bfs el) else (140 < el ∨ k ≠ el)
abbrev hlim (bp : Nat) : Nat := if bp = 0 then 7 else 6
abbrev hdrBad (g : Nat → Nat) : Prop := ¬ (g 2 = 5 ∧ g 3 = 0 ∧ g 4 = 3) ∨ g 6 = 0 ∨ g 7 = 0 ∨ g 6 < g 7
def bitS (g : Nat → Nat) (z b : Nat) : Bool := decide (bz g z (2 + b / 8) / 2 ^ (b % 8) % 2 = 1)
def anyB (g : Nat → Nat) (z : Nat) : Nat → Nat → Bool
  | 0, _ => false
  | m + 1, b => bitS g z b || anyB g z m (b + 1)
def strayB (g : Nat → Nat) (z hd el : Nat) : Bool := (decide (hd ≠ 0) && bitS g z 48) || anyB g z (8 * bfs el - 7 * el) (7 * el)
def fault (g : Nat → Nat) (z : Nat) : Nat :=
  if z < 2 then 1 else if ¬ (g 0 = 0 ∨ g 0 = 1 ∨ g 0 = 4 ∨ g 0 = 5) then 2 else if wszP (g 0 / 4) (g 1) (z - 2) then 3
  else if g 0 % 2 ≠ 0 ∧ (g 1 < hlim (g 0 / 4) ∨ hdrBad g) then 4 else if g 0 / 4 ≠ 0 ∧ g 1 % 2 ≠ 0 then 5 else if g 0 / 4 = 0 ∧ strayB g z (g 0 % 2) (g 1) = true then 6 else 0
def plainV (v : Nat) : Nat := (plainU v).toNatClampNeg
def escV (v : Nat) : Nat := (escU v).toNatClampNeg
theorem tab0_ok : ∀ j, j < 11 → tabF 0 j = nI (tabF 0 j).toNatClampNeg ∧ (tabF 0 j).toNatClampNeg < 65536 := by decide +kernel
theorem tab2_ok : ∀ j, j < 9 → tabF 2 j = nI (tabF 2 j).toNatClampNeg ∧ (tabF 2 j).toNatClampNeg < 65536 := by decide +kernel
theorem plainU_ok (v : Nat) : plainU v = nI (plainV v) ∧ plainV v < 65536 := by
  unfold plainV plainU
  by_cases h : ownP v
  · rw [if_pos h, if_neg (zi_ne (by omega)), nI_clamp (by omega)]; exact ⟨rfl, by omega⟩
  · rw [if_neg h]
    rcases ptn_mem (tabF 1) (tabF 0) 11 0 (nI v) with q | ⟨j, h1, h2, h3, h4⟩
    · rw [q, if_pos rfl]; decide
    · rw [h4]
      have h5 := tab0_ok j (by omega)
      by_cases h6 : tabF 0 j = -1
      · rw [if_pos h6]; decide
      · rw [if_neg h6]; exact h5
theorem escU_ok (v : Nat) : escU v = nI (escV v) ∧ escV v < 65536 := by
  unfold escV escU
  rcases ptn_mem (tabF 3) (tabF 2) 9 0 (nI v) with q | ⟨j, h1, h2, h3, h4⟩
  · rw [q, if_pos rfl]; exact plainU_ok v
  · rw [h4]
    by_cases h6 : tabF 2 j = -1
    · rw [if_pos h6]; exact plainU_ok v
    · rw [if_neg h6]; exact tab2_ok j (by omega)
/-- the units of a part by pairs, from at on -/
def dP (g : Nat → Nat) (el : Nat) : Nat → Nat → List Nat
  | 0, _ => []
  | m + 1, at_ => if at_ + 1 < el then (g (2 + at_ + 1) + 256 * g (2 + at_)) :: dP g el m (at_ + 2) else []
/-- .. and by the alphabet: sv: its sevens -/
def dS (sv : Nat → Nat) (el : Nat) : Nat → Nat → List Nat
  | 0, _ => []
  | m + 1, at_ => if at_ < el then (if sv at_ = 27 then (if at_ + 1 < el then escV (sv (at_ + 1)) else 32) :: dS sv el m (at_ + 2) else plainV (sv at_) :: dS sv el m (at_ + 1)) else []
def unitsL (g : Nat → Nat) (z : Nat) : List Nat := if g 0 / 4 = 0 then dS (svn g z) (g 1) (g 1 - 7 * (g 0 % 2)) (7 * (g 0 % 2)) else dP g (g 1) (g 1 - 6 * (g 0 % 2)) (6 * (g 0 % 2))
theorem dP_len {g : Nat → Nat} {el : Nat} : ∀ m a, (dP g el m a).length ≤ el - a
  | 0, _ => Nat.zero_le _
  | m + 1, a => by
    unfold dP; split
    · have := dP_len (g := g) (el := el) m (a + 2); simp only [List.length_cons]; omega
    · exact Nat.zero_le _
theorem dS_len {sv : Nat → Nat} {el : Nat} : ∀ m a, (dS sv el m a).length ≤ el - a
  | 0, _ => Nat.zero_le _
  | m + 1, a => by
    unfold dS; split
    · split
      · have := dS_len (sv := sv) (el := el) m (a + 2); simp only [List.length_cons]; omega
      · have := dS_len (sv := sv) (el := el) m (a + 1); simp only [List.length_cons]; omega
    · exact Nat.zero_le _
theorem drop_cons {L : List Nat} {k x : Nat} {t : List Nat} (h : L.drop k = x :: t) : k < L.length ∧ L.getD k 0 = x ∧ L.drop (k + 1) = t := by
  have el : k < L.length := by
    rcases Nat.lt_or_ge k L.length with q | q
    · exact q
    · rw [List.drop_eq_nil_of_le q] at h; cases h
  rw [List.drop_eq_getElem_cons el] at h
  cases h
  exact ⟨el, by simp [List.getD, el], rfl⟩
theorem drop_nil {L : List Nat} {k : Nat} (h : L.drop k = []) (hk : k ≤ L.length) : k = L.length := by
  have := List.drop_eq_nil_iff.mp h; omega
theorem ny_or8' {a : Nat} (b : Nat) (ha : a < 256) : nI (b * 2 ^ 8) ||| nI a = nI (a + 256 * b) := by
  rw [ny_or, Nat.or_comm, ← ny_or]; exact ny_or8 b ha
theorem k5 : ∀ k, k < 256 → (k &&& 5 = k ↔ (k = 0 ∨ k = 1 ∨ k = 4 ∨ k = 5)) := by decide +kernel
theorem k4 : ∀ k, k < 6 → (k = 0 ∨ k = 1 ∨ k = 4 ∨ k = 5) → k &&& 4 = 4 * (k / 4) := by decide +kernel
theorem mm_min' {k n : Nat} (h1 : k < 2 ^ 31) (h2 : n < 2 ^ 31) (h : k ≤ n) : (if nI k < nI n then nI k else nI n) = nI k := by
  by_cases q : k < n
  · rw [if_pos ((nI_ltI h1 h2).mpr q)]
  · rw [if_neg (fun z => q ((nI_ltI h1 h2).mp z)), show n = k by omega]

set_option maxHeartbeats 4000000 in
set_option maxRecDepth 100000 in
theorem c_copyOf (l : Launch) (G : ah_G) (h : ah_H) (a t tq n k : Nat) (f u : Nat → Nat) (fa : h a = some (t, .inl (G.2.2.1 0, n, .inl (nA f)))) (hne : t ≠ tq) (hk : k ≤ n) (hn : n < 100000) (hu : ∀ j, j < k → f j = u j) : Met l yJ7_copyOf_59c91 wsJ7_copyOf_59c91 ({ frames := 1, cells := 1, slots := k, locals := 60 }) (ah_Pc G [.ref a, .int (nI k)] h) (ah_Qq G (fun r h' => ∃ q, r = some q ∧ h q = none ∧ h' = ah_up h q (tq, .inl (G.2.2.1 0, k, .inl (nA u))))) 1 k (ah_A G) := by
  refine ah_ofW (cc := cJ7_copyOf_59c91) (maxL := 3) (ret := (some (.array .int))) (by decide) rfl (Nat.le_of_ble_eq_true rfl) ?_
  intro p e s m below meth cd9 ls hx hb hr hml hown hlocks hname hts hE hR hS hl
  have hown : s.vm.findClass RJ7 = some m.cls := hown
  have hl : lv_has ls 3 [(0, .ref a), (1, .int (nI k))] := hl
  have warrayClass_int := hts (.arrayClass .int) (by decide +kernel)
  have wmethodLink_RJ7_304_Lib_Math_min_name := hts (.methodLink RJ7 304 Lib.Math.min.name) (by decide +kernel)
  have wstatic_Lib_Math_min_name := hts (.static Lib.Math.min.name) (by decide +kernel)
  have winitialized_java_lang_Math := hts (.initialized "java/lang/Math") (by decide +kernel)
  have wcode_Lib_Math_min_name_Lib_Math_min_code_2_some_int := hts (.code Lib.Math.min.name Lib.Math.min.code 2 (some .int)) (by decide +kernel)
  have wmethodLink_RJ7_150_arraycopyName := hts (.methodLink RJ7 150 arraycopyName) (by decide +kernel)
  have wnative_arraycopyName := hts (.native arraycopyName) (by decide +kernel)
  have wstatic_arraycopyName := hts (.static arraycopyName) (by decide +kernel)
  have winitialized_java_lang_System := hts (.initialized "java/lang/System") (by decide +kernel)
  have wmethodLink_RJ7_316_I_clone_Ljava_lang_Object := hts (.methodLink RJ7 316 ⟨"[I", "clone", "()Ljava/lang/Object;"⟩) (by decide +kernel)
  have wsameMethod_I_java_lang_Object_clone_Ljava_lang_Object := hts (.sameMethod "[I" "java/lang/Object" "clone" "()Ljava/lang/Object;") (by decide +kernel)
  have wnative_java_lang_Object_clone_Ljava_lang_Object := hts (.native ⟨"java/lang/Object", "clone", "()Ljava/lang/Object;"⟩) (by decide +kernel)
  have winstanceMethod_java_lang_Object_clone_Ljava_lang_Object := hts (.instanceMethod ⟨"java/lang/Object", "clone", "()Ljava/lang/Object;"⟩) (by decide +kernel)
  have wselects_I_I_clone_Ljava_lang_Object_java_lang_Object_clone_Ljava_lang_Object := hts (.selects "[I" ⟨"[I", "clone", "()Ljava/lang/Object;"⟩ ⟨"java/lang/Object", "clone", "()Ljava/lang/Object;"⟩) (by decide +kernel)
  have wclassLink_RJ7_317_I := hts (.classLink RJ7 317 "[I") (by decide +kernel)
  refine lv_iload_n hx hb dJ7_copyOf_59c91_0 rfl (lv_at hl 1 rfl) ?_
  refine lv_aload_n hx hb dJ7_copyOf_59c91_1 rfl (lv_at hl 0 rfl) ?_
  refine ah_alen hx hb hE hR fa (show (ah_tys G)[0]? = some _ from rfl) dJ7_copyOf_59c91_2 ?_
  refine lv_icmp_ne (tgt := 14) hx hb dJ7_copyOf_59c91_3 (by decide) (fun c_1 => ?_) (fun c_1 => ?_)
  · skip
    have c_1 : ¬ (k = n) := fun z9 => c_1 ((nI_eq (by omega) (by omega)).mpr z9)
    refine lv_iload_n hx hb dJ7_copyOf_59c91_14 rfl (lv_at hl 1 rfl) ?_
    refine ah_newi (n := k) hx hb hE hR hS warrayClass_int tq (by omega) (Nat.le_of_ble_eq_true rfl) (by simp) dJ7_copyOf_59c91_15 (fun q_2 H hq_3 hR hS => ?_)
    rw [nA_0] at hR
    obtain ⟨h_4, e_5⟩ : ∃ zz9, zz9 = ah_up h q_2 (tq, .inl (G.2.2.1 0, k, .inl (nA (fun _ => 0)))) := ⟨_, rfl⟩
    have hR : ah_R G h_4 H := by rw [e_5]; exact hR
    have f_6 : h_4 a = some (t, .inl (G.2.2.1 0, n, .inl (nA f))) := by rw [e_5]; exact ah_new fa hq_3
    have f_7 : h_4 q_2 = some (tq, .inl (G.2.2.1 0, k, .inl (nA (fun _ => 0)))) := by rw [e_5]; exact ah_up_s _ _ _
    refine lv_astore_n (lv' := [(2, .ref q_2), (0, .ref a), (1, .int (nI k))]) hx hb dJ7_copyOf_59c91_17 rfl hl (by decide) rfl (fun ls hl => ?_)
    refine lv_aload_n hx hb dJ7_copyOf_59c91_18 rfl (lv_at hl 1 rfl) ?_
    refine lv_iconst (v := nI 0) hx hb dJ7_copyOf_59c91_19 (by decide) ?_
    refine lv_aload_n hx hb dJ7_copyOf_59c91_20 rfl (lv_at hl 0 rfl) ?_
    refine lv_iconst (v := nI 0) hx hb dJ7_copyOf_59c91_21 (by decide) ?_
    refine lv_aload_n hx hb dJ7_copyOf_59c91_22 rfl (lv_at hl 1 rfl) ?_
    refine ah_alen hx hb hE hR f_6 (show (ah_tys G)[0]? = some _ from rfl) dJ7_copyOf_59c91_23 ?_
    refine lv_iload_n hx hb dJ7_copyOf_59c91_24 rfl (lv_at hl 2 rfl) ?_
    refine va_mmin hx hb (hml.trans hl.1.symm) hown wmethodLink_RJ7_304_Lib_Math_min_name wstatic_Lib_Math_min_name winitialized_java_lang_Math wcode_Lib_Math_min_name_Lib_Math_min_code_2_some_int (Nat.le_of_ble_eq_true rfl) (Nat.le_of_ble_eq_true rfl) (show 0 + 1 ≤ 1 by omega) (show 0 + k ≤ k by omega) dJ7_copyOf_59c91_25 ?_
    refine ah_toi (v := nI k) (mm_min' (by omega) (by omega) hk) ?_
    refine ah_copyi hx hb (hml.trans hl.1.symm) hE hR hS hown wmethodLink_RJ7_150_arraycopyName wnative_arraycopyName wstatic_arraycopyName winitialized_java_lang_System f_6 f_7 (by omega) (by omega) (by omega) (Nat.le_of_ble_eq_true rfl) (Nat.le_of_ble_eq_true rfl) dJ7_copyOf_59c91_28 (fun H locs hR hS => ?_)
    obtain ⟨h_8, e_9⟩ : ∃ zz9, zz9 = ah_up h_4 q_2 (tq, .inl (G.2.2.1 0, k, .inl (va_cpy (nA f) (nA (fun _ => 0)) 0 0 k))) := ⟨_, rfl⟩
    have hR : ah_R G h_8 H := by rw [e_9]; exact hR
    have f_10 : h_8 a = some (t, .inl (G.2.2.1 0, n, .inl (nA f))) := by rw [e_9]; exact ah_keep f_6 f_7 hne
    have f_11 : h_8 q_2 = some (tq, .inl (G.2.2.1 0, k, .inl (va_cpy (nA f) (nA (fun _ => 0)) 0 0 k))) := by rw [e_9]; exact ah_up_s _ _ _
    have hR := ah_cong (g := nA u) hR f_11 (fun j hj => by rw [pk_cpy_in (by omega) (by omega)]; show nI (f (0 + (j - 0))) = nI (u j); rw [show 0 + (j - 0) = j by omega, hu j hj])
    refine lv_aload_n hx hb dJ7_copyOf_59c91_31 rfl (lv_at hl 0 rfl) ?_
    refine W.widen (k := 1) (n := k) (by omega) (by omega) ?_
    refine ah_aret (r := (some q_2)) hx hb hr (by first | exact Or.inl ⟨_, rfl⟩ | exact Or.inr ⟨_, rfl⟩) hlocks hR hS dJ7_copyOf_59c91_32 rfl ?_
    exact ⟨q_2, rfl, hq_3, by rw [e_9, ah_up2, e_5, ah_up2]⟩
  · skip
    have c_1 : k = n := (nI_eq (by omega) (by omega)).mp c_1
    refine lv_aload_n hx hb dJ7_copyOf_59c91_6 rfl (lv_at hl 0 rfl) ?_
    refine ah_clonei hx hb (hml.trans hl.1.symm) hE hR hS hown wmethodLink_RJ7_316_I_clone_Ljava_lang_Object wsameMethod_I_java_lang_Object_clone_Ljava_lang_Object wnative_java_lang_Object_clone_Ljava_lang_Object winstanceMethod_java_lang_Object_clone_Ljava_lang_Object wselects_I_I_clone_Ljava_lang_Object_java_lang_Object_clone_Ljava_lang_Object fa tq (Nat.le_of_ble_eq_true rfl) (Nat.le_of_ble_eq_true rfl) (Nat.le_of_ble_eq_true rfl) (show 0 + n ≤ k by omega) dJ7_copyOf_59c91_7 (fun q_12 H hq_13 hR hS => ?_)
    obtain ⟨h_14, e_15⟩ : ∃ zz9, zz9 = ah_up h q_12 (tq, .inl (G.2.2.1 0, n, .inl (nA f))) := ⟨_, rfl⟩
    have hR : ah_R G h_14 H := by rw [e_15]; exact hR
    have f_16 : h_14 a = some (t, .inl (G.2.2.1 0, n, .inl (nA f))) := by rw [e_15]; exact ah_new fa hq_13
    have f_17 : h_14 q_12 = some (tq, .inl (G.2.2.1 0, n, .inl (nA f))) := by rw [e_15]; exact ah_up_s _ _ _
    refine ah_castA hx hb hE hR hown wclassLink_RJ7_317_I f_17 dJ7_copyOf_59c91_10 ?_
    have hnk : n = k := by omega
    have hR := ah_cong (g := nA u) hR f_17 (fun j hj => by show nI (f j) = nI (u j); rw [hu j (by omega)])
    rw [hnk] at hR
    refine W.widen (k := 1) (n := k) (by omega) (by omega) ?_
    refine ah_aret (r := (some q_12)) hx hb hr (by first | exact Or.inl ⟨_, rfl⟩ | exact Or.inr ⟨_, rfl⟩) hlocks hR hS dJ7_copyOf_59c91_13 rfl ?_
    exact ⟨q_12, rfl, hq_13, by rw [e_15, ah_up2]⟩

set_option maxHeartbeats 4000000 in
set_option maxRecDepth 100000 in
theorem c_Rd_init (l : Launch) (G : ah_G) (h : ah_H) (rd : Nat) (fd : h rd = some (10, .inr (3, [.int (nI 0), .int (nI 0), .int (nI 0), .int (nI 0), .int (nI 0), .int (nI 0), .null]))) : Met l yX4_init wsX4_init ({ frames := 1, cells := 1, slots := 160, locals := 20 }) (ah_Pc G [.ref rd] h) (ah_Qv G (fun h' => ∃ q, h q = none ∧ h' = ah_up (ah_up h q (11, .inl (G.2.2.1 0, 160, .inl (nA (fun _ => 0))))) rd (10, .inr (3, [.int (nI 0), .int (nI 0), .int (nI 0), .int (nI 0), .int (nI 0), .int (nI 0), .ref q])))) 1 160 (ah_A G) := by
  refine ah_ofW (cc := cX4_init) (maxL := 1) (ret := none) (by decide) rfl (Nat.le_of_ble_eq_true rfl) ?_
  intro p e s m below meth cd9 ls hx hb hr hml hown hlocks hname hts hE hR hS hl
  have hown : s.vm.findClass RX4 = some m.cls := hown
  have hl : lv_has ls 1 [(0, .ref rd)] := hl
  have wmethodLink_RX4_3_objectInit := hts (.methodLink RX4 3 objectInit) (by decide +kernel)
  have winstanceMethod_objectInit := hts (.instanceMethod objectInit) (by decide +kernel)
  have wcode_objectInit_0xb1_1_none := hts (.code objectInit ⟨#[0xb1]⟩ 1 none) (by decide +kernel)
  have warrayClass_int := hts (.arrayClass .int) (by decide +kernel)
  have k9 := hts (.fieldLink RX4 9 "TextParts$PartReader" "units" "[I") (by decide +kernel)
  have hinX4 : ∀ w ∈ wsX40, w ∈ wsX4_init := by decide +kernel
  refine lv_aload_n hx hb dX4_init_0 rfl (lv_at hl 0 rfl) ?_
  refine W.objInit hx hb hown wmethodLink_RX4_3_objectInit winstanceMethod_objectInit wcode_objectInit_0xb1_1_none rfl (by rw [hml]; exact hl.1) rfl dX4_init_1 (Nat.le_of_ble_eq_true rfl) (Nat.le_of_ble_eq_true rfl) ?_
  refine W.eq (g2 := F0 m 4 ls []) rfl ?_
  refine lv_aload_n hx hb dX4_init_4 rfl (lv_at hl 0 rfl) ?_
  refine lv_sipush (v := nI 160) hx hb dX4_init_5 (by decide) ?_
  refine ah_newi (n := 160) hx hb hE hR hS warrayClass_int 11 (by decide) (Nat.le_of_ble_eq_true rfl) (Nat.le_of_ble_eq_true rfl) dX4_init_8 (fun q_1 H hq_2 hR hS => ?_)
  rw [nA_0] at hR
  obtain ⟨h_3, e_4⟩ : ∃ zz9, zz9 = ah_up h q_1 (11, .inl (G.2.2.1 0, 160, .inl (nA (fun _ => 0)))) := ⟨_, rfl⟩
  have hR : ah_R G h_3 H := by rw [e_4]; exact hR
  have f_5 : h_3 rd = some (10, .inr (3, [.int (nI 0), .int (nI 0), .int (nI 0), .int (nI 0), .int (nI 0), .int (nI 0), .null])) := by rw [e_4]; exact ah_new fd hq_2
  have f_6 : h_3 q_1 = some (11, .inl (G.2.2.1 0, 160, .inl (nA (fun _ => 0)))) := by rw [e_4]; exact ah_up_s _ _ _
  refine ah_putF (ci := 3) (v := .ref q_1) (ty := .array .int) (C := RX4) (T := TX4) (N := 7) hx hb hE hR hS hts hinX4 tyX4 tyX4_ok nmX4 hown f_5 rfl 6 (by decide) k9 (fun _ h9 => h9) rfl hname rfl (by decide +kernel) rfl rfl (Nat.le_of_ble_eq_true rfl) dX4_init_10 (fun H locs hR hS => ?_)
  obtain ⟨h_7, e_8⟩ : ∃ zz9, zz9 = ah_up h_3 rd (10, .inr (3, [.int (nI 0), .int (nI 0), .int (nI 0), .int (nI 0), .int (nI 0), .int (nI 0), .ref q_1])) := ⟨_, rfl⟩
  have hR : ah_R G h_7 H := by rw [e_8]; exact hR
  have f_9 : h_7 rd = some (10, .inr (3, [.int (nI 0), .int (nI 0), .int (nI 0), .int (nI 0), .int (nI 0), .int (nI 0), .ref q_1])) := by rw [e_8]; exact ah_up_s _ _ _
  have f_10 : h_7 q_1 = some (11, .inl (G.2.2.1 0, 160, .inl (nA (fun _ => 0)))) := by rw [e_8]; exact ah_keep f_6 f_5 (by omega)
  refine ah_vret hx hb hr hlocks hR hS dX4_init_13 ?_
  exact ⟨q_1, hq_2, by rw [e_8, e_4]⟩

set_option maxHeartbeats 4000000 in
set_option maxRecDepth 100000 in
theorem c_Rd_isWrongSize (l : Launch) (G : ah_G) (h : ah_H) (rd ru hd rfr ps nm bp el : Nat) (uf : Nat → Nat) (fd : h rd = some (10, .inr (3, [.int (nI hd), .int (nI rfr), .int (nI ps), .int (nI nm), .int (nI bp), .int (nI el), .ref ru]))) (fu : h ru = some (11, .inl (G.2.2.1 0, 160, .inl (nA uf)))) (hhd : hd ≤ 1) (hbp : bp ≤ 1) (hhl : el < 256) (k : Nat) (hk : k < 2 ^ 20) : Met l yX4_isWrongSize wsX4_isWrongSize ({ frames := 1, cells := 0, slots := 0, locals := 20 }) (ah_Pc G [.ref rd, .int (nI k)] h) (ah_Qi G (fun v h' => v = nI (if wszP bp el k then 1 else 0) ∧ h' = h)) 0 0 (ah_A G) := by
  refine ah_ofW (cc := cX4_isWrongSize) (maxL := 2) (ret := (some .boolean)) (by decide) rfl (Nat.le_of_ble_eq_true rfl) ?_
  intro p e s m below meth cd9 ls hx hb hr hml hown hlocks hname hts hE hR hS hl
  have hown : s.vm.findClass RX4 = some m.cls := hown
  have hl : lv_has ls 2 [(0, .ref rd), (1, .int (nI k))] := hl
  have k29 := hts (.fieldLink RX4 29 "TextParts$PartReader" "byPairs" "Z") (by decide +kernel)
  have hinX4 : ∀ w ∈ wsX40, w ∈ wsX4_isWrongSize := by decide +kernel
  have k32 := hts (.fieldLink RX4 32 "TextParts$PartReader" "held" "I") (by decide +kernel)
  have winitialized_RX8 := hts (.initialized RX8) (by decide +kernel)
  have wstatic_yX8_bytesForSevens := hts (.static yX8_bytesForSevens) (by decide +kernel)
  refine lv_aload_n hx hb dX4_isWrongSize_0 rfl (lv_at hl 0 rfl) ?_
  refine ah_get (ci := 3) (v := .int (nI bp)) (C := RX4) (T := TX4) (N := 7) hx hb hE hR hts hinX4 hown fd rfl 4 (by decide) k29 (fun _ h9 => h9) rfl dX4_isWrongSize_1 ?_
  refine lv_if_eq (tgt := 31) hx hb dX4_isWrongSize_4 (by decide) (fun c_1 => ?_) (fun c_1 => ?_)
  · skip
    have c_1 : bp = 0 := (zi_eq (by omega)).mp c_1
    refine lv_aload_n hx hb dX4_isWrongSize_31 rfl (lv_at hl 0 rfl) ?_
    refine ah_get (ci := 3) (v := .int (nI el)) (C := RX4) (T := TX4) (N := 7) hx hb hE hR hts hinX4 hown fd rfl 5 (by decide) k32 (fun _ h9 => h9) rfl dX4_isWrongSize_32 ?_
    refine lv_sipush (v := nI 160) hx hb dX4_isWrongSize_35 (by decide) ?_
    refine lv_icmp_gt (tgt := 52) hx hb dX4_isWrongSize_38 (by decide) (fun c_2 => ?_) (fun c_2 => ?_)
    · skip
      have c_2 : 160 < el := (nI_ltI (by omega) (by omega)).mp c_2
      refine lv_iconst (v := nI 1) hx hb dX4_isWrongSize_52 (by decide) ?_
      refine lv_goto (tgt := 57) hx hb dX4_isWrongSize_53 (by decide) ?_
      refine ah_zret (v := nI 1) hx hb hr hlocks hR hS dX4_isWrongSize_57 (by decide) ?_
      first | exact ⟨by rw [if_pos (by unfold wszP; first | (rw [if_pos (show bp = 0 by omega)]; omega) | (rw [if_neg (show ¬ bp = 0 by omega)]; omega))], rfl⟩ | exact ⟨by rw [if_neg (by unfold wszP; first | (rw [if_pos (show bp = 0 by omega)]; omega) | (rw [if_neg (show ¬ bp = 0 by omega)]; omega))], rfl⟩
    · skip
      have c_2 : ¬ (160 < el) := fun z9 => c_2 ((nI_ltI (by omega) (by omega)).mpr z9)
      refine lv_iload_n hx hb dX4_isWrongSize_41 rfl (lv_at hl 1 rfl) ?_
      refine lv_aload_n hx hb dX4_isWrongSize_42 rfl (lv_at hl 0 rfl) ?_
      refine ah_get (ci := 3) (v := .int (nI el)) (C := RX4) (T := TX4) (N := 7) hx hb hE hR hts hinX4 hown fd rfl 5 (by decide) k32 (fun _ h9 => h9) rfl dX4_isWrongSize_43 ?_
      refine ah_calli (va_runSN (As := [.int (nI el)]) (rest := [.int (nI k)]) ⟨hx, hb, hml, hown, hts⟩ (c_bytesForSevens l G h el (by omega)) ⟨va_cnB 1 hts gX4_isWrongSize_X8_bytesForSevens_n59 rfl rfl rfl hE.2.2.2.1.2.2.2.2.2.1 winitialized_RX8 (by decide +kernel) ⟨Nat.le_of_ble_eq_true rfl, Nat.le_of_ble_eq_true rfl⟩, wstatic_yX8_bytesForSevens, trivial⟩ (ah_preS hE hR hS) rfl rfl hl.1 rfl (lv_room (Nat.le_of_ble_eq_true rfl)) dX4_isWrongSize_46 ⟨Nat.le_of_ble_eq_true rfl, Nat.le_of_ble_eq_true rfl⟩) hS (fun r_5 h_3 H locs p_4 hR hS => ?_)
      obtain ⟨e_6, e_7⟩ := p_4
      rw [e_7] at hR
      refine ah_toi e_6 ?_
      have hbf : bfs el < 1000 := by unfold bfs; omega
      refine lv_icmp_eq (tgt := 56) hx hb dX4_isWrongSize_49 (by decide) (fun c_8 => ?_) (fun c_8 => ?_)
      · skip
        have c_8 : k = (bfs el) := (nI_eq (by omega) (by omega)).mp c_8
        refine lv_iconst (v := nI 0) hx hb dX4_isWrongSize_56 (by decide) ?_
        refine ah_zret (v := nI 0) hx hb hr hlocks hR hS dX4_isWrongSize_57 (by decide) ?_
        first | exact ⟨by rw [if_pos (by unfold wszP; first | (rw [if_pos (show bp = 0 by omega)]; omega) | (rw [if_neg (show ¬ bp = 0 by omega)]; omega))], rfl⟩ | exact ⟨by rw [if_neg (by unfold wszP; first | (rw [if_pos (show bp = 0 by omega)]; omega) | (rw [if_neg (show ¬ bp = 0 by omega)]; omega))], rfl⟩
      · skip
        have c_8 : ¬ (k = (bfs el)) := fun z9 => c_8 ((nI_eq (by omega) (by omega)).mpr z9)
        refine lv_iconst (v := nI 1) hx hb dX4_isWrongSize_52 (by decide) ?_
        refine lv_goto (tgt := 57) hx hb dX4_isWrongSize_53 (by decide) ?_
        refine ah_zret (v := nI 1) hx hb hr hlocks hR hS dX4_isWrongSize_57 (by decide) ?_
        first | exact ⟨by rw [if_pos (by unfold wszP; first | (rw [if_pos (show bp = 0 by omega)]; omega) | (rw [if_neg (show ¬ bp = 0 by omega)]; omega))], rfl⟩ | exact ⟨by rw [if_neg (by unfold wszP; first | (rw [if_pos (show bp = 0 by omega)]; omega) | (rw [if_neg (show ¬ bp = 0 by omega)]; omega))], rfl⟩
  · skip
    have c_1 : ¬ (bp = 0) := fun z9 => c_1 ((zi_eq (by omega)).mpr z9)
    refine lv_aload_n hx hb dX4_isWrongSize_7 rfl (lv_at hl 0 rfl) ?_
    refine ah_get (ci := 3) (v := .int (nI el)) (C := RX4) (T := TX4) (N := 7) hx hb hE hR hts hinX4 hown fd rfl 5 (by decide) k32 (fun _ h9 => h9) rfl dX4_isWrongSize_8 ?_
    refine lv_sipush (v := nI 140) hx hb dX4_isWrongSize_11 (by decide) ?_
    refine lv_icmp_gt (tgt := 25) hx hb dX4_isWrongSize_14 (by decide) (fun c_9 => ?_) (fun c_9 => ?_)
    · skip
      have c_9 : 140 < el := (nI_ltI (by omega) (by omega)).mp c_9
      refine lv_iconst (v := nI 1) hx hb dX4_isWrongSize_25 (by decide) ?_
      refine lv_goto (tgt := 30) hx hb dX4_isWrongSize_26 (by decide) ?_
      refine ah_zret (v := nI 1) hx hb hr hlocks hR hS dX4_isWrongSize_30 (by decide) ?_
      first | exact ⟨by rw [if_pos (by unfold wszP; first | (rw [if_pos (show bp = 0 by omega)]; omega) | (rw [if_neg (show ¬ bp = 0 by omega)]; omega))], rfl⟩ | exact ⟨by rw [if_neg (by unfold wszP; first | (rw [if_pos (show bp = 0 by omega)]; omega) | (rw [if_neg (show ¬ bp = 0 by omega)]; omega))], rfl⟩
    · skip
      have c_9 : ¬ (140 < el) := fun z9 => c_9 ((nI_ltI (by omega) (by omega)).mpr z9)
      refine lv_iload_n hx hb dX4_isWrongSize_17 rfl (lv_at hl 1 rfl) ?_
      refine lv_aload_n hx hb dX4_isWrongSize_18 rfl (lv_at hl 0 rfl) ?_
      refine ah_get (ci := 3) (v := .int (nI el)) (C := RX4) (T := TX4) (N := 7) hx hb hE hR hts hinX4 hown fd rfl 5 (by decide) k32 (fun _ h9 => h9) rfl dX4_isWrongSize_19 ?_
      refine lv_icmp_eq (tgt := 29) hx hb dX4_isWrongSize_22 (by decide) (fun c_10 => ?_) (fun c_10 => ?_)
      · skip
        have c_10 : k = el := (nI_eq (by omega) (by omega)).mp c_10
        refine lv_iconst (v := nI 0) hx hb dX4_isWrongSize_29 (by decide) ?_
        refine ah_zret (v := nI 0) hx hb hr hlocks hR hS dX4_isWrongSize_30 (by decide) ?_
        first | exact ⟨by rw [if_pos (by unfold wszP; first | (rw [if_pos (show bp = 0 by omega)]; omega) | (rw [if_neg (show ¬ bp = 0 by omega)]; omega))], rfl⟩ | exact ⟨by rw [if_neg (by unfold wszP; first | (rw [if_pos (show bp = 0 by omega)]; omega) | (rw [if_neg (show ¬ bp = 0 by omega)]; omega))], rfl⟩
      · skip
        have c_10 : ¬ (k = el) := fun z9 => c_10 ((nI_eq (by omega) (by omega)).mpr z9)
        refine lv_iconst (v := nI 1) hx hb dX4_isWrongSize_25 (by decide) ?_
        refine lv_goto (tgt := 30) hx hb dX4_isWrongSize_26 (by decide) ?_
        refine ah_zret (v := nI 1) hx hb hr hlocks hR hS dX4_isWrongSize_30 (by decide) ?_
        first | exact ⟨by rw [if_pos (by unfold wszP; first | (rw [if_pos (show bp = 0 by omega)]; omega) | (rw [if_neg (show ¬ bp = 0 by omega)]; omega))], rfl⟩ | exact ⟨by rw [if_neg (by unfold wszP; first | (rw [if_pos (show bp = 0 by omega)]; omega) | (rw [if_neg (show ¬ bp = 0 by omega)]; omega))], rfl⟩

set_option maxHeartbeats 4000000 in
set_option maxRecDepth 100000 in
theorem c_Rd_isWrongHeader (l : Launch) (G : ah_G) (h : ah_H) (rd ru hd rfr ps nm bp el : Nat) (uf : Nat → Nat) (fd : h rd = some (10, .inr (3, [.int (nI hd), .int (nI rfr), .int (nI ps), .int (nI nm), .int (nI bp), .int (nI el), .ref ru]))) (fu : h ru = some (11, .inl (G.2.2.1 0, 160, .inl (nA uf)))) (hhd : hd ≤ 1) (hbp : bp ≤ 1) (hhl : el < 256) (r b tr tb n z : Nat) (g : Nat → Nat) (fr : h r = some (tr, .inr (5, [.ref b, .int (nI z)]))) (fb : h b = some (tb, .inl (G.2.2.1 0, n, .inl (nA g)))) (hne : tr ≠ tb) (hz : z ≤ n) (hn : n < 1000) (hg : ∀ j, g j < 256) (h10 : tr ≠ 10) (h11 : tr ≠ 11) (b10 : tb ≠ 10) (b11 : tb ≠ 11) (h8 : hlim bp ≤ el → 8 ≤ z) : Met l yX4_isWrongHeader wsX4_isWrongHeader ({ frames := 1, cells := 0, slots := 0, locals := 21 }) (ah_Pc G [.ref rd, .ref r] h) (ah_Qi G (fun v h' => (el < hlim bp → v = nI 1 ∧ h' = h) ∧ (hlim bp ≤ el → v = nI (if hdrBad g then 1 else 0) ∧ h' = ah_up h rd (10, .inr (3, [.int (nI hd), .int (nI (g 5)), .int (nI (g 6)), .int (nI (g 7)), .int (nI bp), .int (nI el), .ref ru]))))) 0 0 (ah_A G) := by
  refine ah_ofW (cc := cX4_isWrongHeader) (maxL := 3) (ret := (some .boolean)) (by decide) rfl (Nat.le_of_ble_eq_true rfl) ?_
  intro p e s m below meth cd9 ls hx hb hr hml hown hlocks hname hts hE hR hS hl
  have hown : s.vm.findClass RX4 = some m.cls := hown
  have hl : lv_has ls 3 [(0, .ref rd), (1, .ref r)] := hl
  have k32 := hts (.fieldLink RX4 32 "TextParts$PartReader" "held" "I") (by decide +kernel)
  have hinX4 : ∀ w ∈ wsX40, w ∈ wsX4_isWrongHeader := by decide +kernel
  have k29 := hts (.fieldLink RX4 29 "TextParts$PartReader" "byPairs" "Z") (by decide +kernel)
  have k62 := hts (.fieldLink RX4 62 "TextParts$PartReader" "reference" "I") (by decide +kernel)
  have k65 := hts (.fieldLink RX4 65 "TextParts$PartReader" "parts" "I") (by decide +kernel)
  have k68 := hts (.fieldLink RX4 68 "TextParts$PartReader" "number" "I") (by decide +kernel)
  refine lv_aload_n hx hb dX4_isWrongHeader_0 rfl (lv_at hl 0 rfl) ?_
  refine ah_get (ci := 3) (v := .int (nI el)) (C := RX4) (T := TX4) (N := 7) hx hb hE hR hts hinX4 hown fd rfl 5 (by decide) k32 (fun _ h9 => h9) rfl dX4_isWrongHeader_1 ?_
  refine lv_aload_n hx hb dX4_isWrongHeader_4 rfl (lv_at hl 0 rfl) ?_
  refine ah_get (ci := 3) (v := .int (nI bp)) (C := RX4) (T := TX4) (N := 7) hx hb hE hR hts hinX4 hown fd rfl 4 (by decide) k29 (fun _ h9 => h9) rfl dX4_isWrongHeader_5 ?_
  refine lv_if_eq (tgt := 16) hx hb dX4_isWrongHeader_8 (by decide) (fun c_1 => ?_) (fun c_1 => ?_)
  · skip
    have c_1 : bp = 0 := (zi_eq (by omega)).mp c_1
    have hlm : hlim bp = 7 := if_pos c_1
    refine lv_bipush (v := nI 7) hx hb dX4_isWrongHeader_16 (by decide) ?_
    refine lv_icmp_ge (tgt := 23) hx hb dX4_isWrongHeader_18 (by decide) (fun c_2 => ?_) (fun c_2 => ?_)
    · skip
      have c_2 : 7 ≤ el := (nI_leI (by omega) (by omega)).mp c_2
      have h8z : 8 ≤ z := h8 (by omega)
      refine lv_aload_n hx hb dX4_isWrongHeader_23 rfl (lv_at hl 0 rfl) ?_
      refine lv_aload_n hx hb dX4_isWrongHeader_24 rfl (lv_at hl 1 rfl) ?_
      refine lv_iconst (v := nI 5) hx hb dX4_isWrongHeader_25 (by decide) ?_
      refine ah_calli (va_runV (As := [.int (nI 5)]) (rest := [.ref rd]) ⟨hx, hb, hml, hown, hts⟩ (c_Row_byteAt l G h r b tr tb n z g fr fb hne hz (by omega) (nI 5)) (cwV 1 hts gX4_isWrongHeader_X6_byteAt rfl rfl rfl (by decide +kernel) ⟨Nat.le_of_ble_eq_true rfl, Nat.le_of_ble_eq_true rfl⟩) (ah_preV hE hR hS fr rfl) rfl rfl hl.1 rfl (lv_room (Nat.le_of_ble_eq_true rfl)) dX4_isWrongHeader_26 ⟨Nat.le_of_ble_eq_true rfl, Nat.le_of_ble_eq_true rfl⟩) hS (fun r_5 h_3 H locs p_4 hR hS => ?_)
      obtain ⟨e_6, e_7⟩ := p_4
      rw [e_7] at hR
      rw [rwA_in (show 5 < z by omega) (by omega)] at e_6
      refine ah_toi e_6 ?_
      have hgb_8 := hg 5
      refine ah_put (ci := 3) (v := .int (nI (g 5))) (ty := .int) (C := RX4) (T := TX4) (N := 7) hx hb hE hR hS hts hinX4 tyX4 tyX4_ok nmX4 hown fd rfl 1 (by decide) k62 (fun _ h9 => h9) rfl (by decide +kernel) rfl rfl (Nat.le_of_ble_eq_true rfl) dX4_isWrongHeader_29 (fun H locs hR hS => ?_)
      obtain ⟨h_9, e_10⟩ : ∃ zz9, zz9 = ah_up h rd (10, .inr (3, [.int (nI hd), .int (nI (g 5)), .int (nI ps), .int (nI nm), .int (nI bp), .int (nI el), .ref ru])) := ⟨_, rfl⟩
      have hR : ah_R G h_9 H := by rw [e_10]; exact hR
      have f_11 : h_9 rd = some (10, .inr (3, [.int (nI hd), .int (nI (g 5)), .int (nI ps), .int (nI nm), .int (nI bp), .int (nI el), .ref ru])) := by rw [e_10]; exact ah_up_s _ _ _
      have f_12 : h_9 ru = some (11, .inl (G.2.2.1 0, 160, .inl (nA uf))) := by rw [e_10]; exact ah_keep fu fd (by omega)
      have f_13 : h_9 r = some (tr, .inr (5, [.ref b, .int (nI z)])) := by rw [e_10]; exact ah_keep fr fd (by omega)
      have f_14 : h_9 b = some (tb, .inl (G.2.2.1 0, n, .inl (nA g))) := by rw [e_10]; exact ah_keep fb fd (by omega)
      refine lv_aload_n hx hb dX4_isWrongHeader_32 rfl (lv_at hl 0 rfl) ?_
      refine lv_aload_n hx hb dX4_isWrongHeader_33 rfl (lv_at hl 1 rfl) ?_
      refine lv_bipush (v := nI 6) hx hb dX4_isWrongHeader_34 (by decide) ?_
      refine ah_calli (va_runV (As := [.int (nI 6)]) (rest := [.ref rd]) ⟨hx, hb, hml, hown, hts⟩ (c_Row_byteAt l G h_9 r b tr tb n z g f_13 f_14 hne hz (by omega) (nI 6)) (cwV 1 hts gX4_isWrongHeader_X6_byteAt rfl rfl rfl (by decide +kernel) ⟨Nat.le_of_ble_eq_true rfl, Nat.le_of_ble_eq_true rfl⟩) (ah_preV hE hR hS f_13 rfl) rfl rfl hl.1 rfl (lv_room (Nat.le_of_ble_eq_true rfl)) dX4_isWrongHeader_36 ⟨Nat.le_of_ble_eq_true rfl, Nat.le_of_ble_eq_true rfl⟩) hS (fun r_17 h_15 H locs p_16 hR hS => ?_)
      obtain ⟨e_18, e_19⟩ := p_16
      rw [e_19] at hR
      rw [rwA_in (show 6 < z by omega) (by omega)] at e_18
      refine ah_toi e_18 ?_
      have hgb_20 := hg 6
      refine ah_put (ci := 3) (v := .int (nI (g 6))) (ty := .int) (C := RX4) (T := TX4) (N := 7) hx hb hE hR hS hts hinX4 tyX4 tyX4_ok nmX4 hown f_11 rfl 2 (by decide) k65 (fun _ h9 => h9) rfl (by decide +kernel) rfl rfl (Nat.le_of_ble_eq_true rfl) dX4_isWrongHeader_39 (fun H locs hR hS => ?_)
      obtain ⟨h_21, e_22⟩ : ∃ zz9, zz9 = ah_up h_9 rd (10, .inr (3, [.int (nI hd), .int (nI (g 5)), .int (nI (g 6)), .int (nI nm), .int (nI bp), .int (nI el), .ref ru])) := ⟨_, rfl⟩
      have hR : ah_R G h_21 H := by rw [e_22]; exact hR
      have f_23 : h_21 rd = some (10, .inr (3, [.int (nI hd), .int (nI (g 5)), .int (nI (g 6)), .int (nI nm), .int (nI bp), .int (nI el), .ref ru])) := by rw [e_22]; exact ah_up_s _ _ _
      have f_24 : h_21 ru = some (11, .inl (G.2.2.1 0, 160, .inl (nA uf))) := by rw [e_22]; exact ah_keep f_12 f_11 (by omega)
      have f_25 : h_21 r = some (tr, .inr (5, [.ref b, .int (nI z)])) := by rw [e_22]; exact ah_keep f_13 f_11 (by omega)
      have f_26 : h_21 b = some (tb, .inl (G.2.2.1 0, n, .inl (nA g))) := by rw [e_22]; exact ah_keep f_14 f_11 (by omega)
      refine lv_aload_n hx hb dX4_isWrongHeader_42 rfl (lv_at hl 0 rfl) ?_
      refine lv_aload_n hx hb dX4_isWrongHeader_43 rfl (lv_at hl 1 rfl) ?_
      refine lv_bipush (v := nI 7) hx hb dX4_isWrongHeader_44 (by decide) ?_
      refine ah_calli (va_runV (As := [.int (nI 7)]) (rest := [.ref rd]) ⟨hx, hb, hml, hown, hts⟩ (c_Row_byteAt l G h_21 r b tr tb n z g f_25 f_26 hne hz (by omega) (nI 7)) (cwV 1 hts gX4_isWrongHeader_X6_byteAt rfl rfl rfl (by decide +kernel) ⟨Nat.le_of_ble_eq_true rfl, Nat.le_of_ble_eq_true rfl⟩) (ah_preV hE hR hS f_25 rfl) rfl rfl hl.1 rfl (lv_room (Nat.le_of_ble_eq_true rfl)) dX4_isWrongHeader_46 ⟨Nat.le_of_ble_eq_true rfl, Nat.le_of_ble_eq_true rfl⟩) hS (fun r_29 h_27 H locs p_28 hR hS => ?_)
      obtain ⟨e_30, e_31⟩ := p_28
      rw [e_31] at hR
      rw [rwA_in (show 7 < z by omega) (by omega)] at e_30
      refine ah_toi e_30 ?_
      have hgb_32 := hg 7
      refine ah_put (ci := 3) (v := .int (nI (g 7))) (ty := .int) (C := RX4) (T := TX4) (N := 7) hx hb hE hR hS hts hinX4 tyX4 tyX4_ok nmX4 hown f_23 rfl 3 (by decide) k68 (fun _ h9 => h9) rfl (by decide +kernel) rfl rfl (Nat.le_of_ble_eq_true rfl) dX4_isWrongHeader_49 (fun H locs hR hS => ?_)
      obtain ⟨h_33, e_34⟩ : ∃ zz9, zz9 = ah_up h_21 rd (10, .inr (3, [.int (nI hd), .int (nI (g 5)), .int (nI (g 6)), .int (nI (g 7)), .int (nI bp), .int (nI el), .ref ru])) := ⟨_, rfl⟩
      have hR : ah_R G h_33 H := by rw [e_34]; exact hR
      have f_35 : h_33 rd = some (10, .inr (3, [.int (nI hd), .int (nI (g 5)), .int (nI (g 6)), .int (nI (g 7)), .int (nI bp), .int (nI el), .ref ru])) := by rw [e_34]; exact ah_up_s _ _ _
      have f_36 : h_33 ru = some (11, .inl (G.2.2.1 0, 160, .inl (nA uf))) := by rw [e_34]; exact ah_keep f_24 f_23 (by omega)
      have f_37 : h_33 r = some (tr, .inr (5, [.ref b, .int (nI z)])) := by rw [e_34]; exact ah_keep f_25 f_23 (by omega)
      have f_38 : h_33 b = some (tb, .inl (G.2.2.1 0, n, .inl (nA g))) := by rw [e_34]; exact ah_keep f_26 f_23 (by omega)
      refine lv_aload_n hx hb dX4_isWrongHeader_52 rfl (lv_at hl 1 rfl) ?_
      refine lv_iconst (v := nI 2) hx hb dX4_isWrongHeader_53 (by decide) ?_
      refine ah_calli (va_runV (As := [.int (nI 2)]) (rest := []) ⟨hx, hb, hml, hown, hts⟩ (c_Row_byteAt l G h_33 r b tr tb n z g f_37 f_38 hne hz (by omega) (nI 2)) (cwV 1 hts gX4_isWrongHeader_X6_byteAt rfl rfl rfl (by decide +kernel) ⟨Nat.le_of_ble_eq_true rfl, Nat.le_of_ble_eq_true rfl⟩) (ah_preV hE hR hS f_37 rfl) rfl rfl hl.1 rfl (lv_room (Nat.le_of_ble_eq_true rfl)) dX4_isWrongHeader_54 ⟨Nat.le_of_ble_eq_true rfl, Nat.le_of_ble_eq_true rfl⟩) hS (fun r_41 h_39 H locs p_40 hR hS => ?_)
      obtain ⟨e_42, e_43⟩ := p_40
      rw [e_43] at hR
      rw [rwA_in (show 2 < z by omega) (by omega)] at e_42
      refine ah_toi e_42 ?_
      have hgb_44 := hg 2
      refine lv_iconst (v := nI 5) hx hb dX4_isWrongHeader_57 (by decide) ?_
      refine lv_icmp_ne (tgt := 82) hx hb dX4_isWrongHeader_58 (by decide) (fun c_45 => ?_) (fun c_45 => ?_)
      · skip
        have c_45 : ¬ ((g 2) = 5) := fun z9 => c_45 ((nI_eq (by omega) (by omega)).mpr z9)
        refine lv_iconst (v := nI 0) hx hb dX4_isWrongHeader_82 (by decide) ?_
        refine lv_istore_n (lv' := [(2, .int (nI 0)), (0, .ref rd), (1, .ref r)]) hx hb dX4_isWrongHeader_83 rfl hl (by decide) rfl (fun ls hl => ?_)
        refine lv_iload_n hx hb dX4_isWrongHeader_84 rfl (lv_at hl 0 rfl) ?_
        refine lv_if_eq (tgt := 113) hx hb dX4_isWrongHeader_85 (by decide) (fun c_46 => ?_) (fun c_46 => ?_)
        · skip
          refine lv_iconst (v := nI 1) hx hb dX4_isWrongHeader_113 (by decide) ?_
          refine lv_goto (tgt := 118) hx hb dX4_isWrongHeader_114 (by decide) ?_
          refine ah_zret (v := nI 1) hx hb hr hlocks hR hS dX4_isWrongHeader_118 (by decide) ?_
          refine ⟨fun q => absurd q (by omega), fun _ => ⟨?_, ?_⟩⟩
          · first | (rw [if_pos (show hdrBad g by omega)]) | (rw [if_neg (show ¬ hdrBad g by omega)])
          · rw [e_34, e_22, e_10]; simp only [ah_up2]
        · skip
          exact absurd (by decide) c_46
      · skip
        have c_45 : (g 2) = 5 := (nI_eq (by omega) (by omega)).mp c_45
        refine lv_aload_n hx hb dX4_isWrongHeader_61 rfl (lv_at hl 1 rfl) ?_
        refine lv_iconst (v := nI 3) hx hb dX4_isWrongHeader_62 (by decide) ?_
        refine ah_calli (va_runV (As := [.int (nI 3)]) (rest := []) ⟨hx, hb, hml, hown, hts⟩ (c_Row_byteAt l G h_33 r b tr tb n z g f_37 f_38 hne hz (by omega) (nI 3)) (cwV 1 hts gX4_isWrongHeader_X6_byteAt rfl rfl rfl (by decide +kernel) ⟨Nat.le_of_ble_eq_true rfl, Nat.le_of_ble_eq_true rfl⟩) (ah_preV hE hR hS f_37 rfl) rfl rfl hl.1 rfl (lv_room (Nat.le_of_ble_eq_true rfl)) dX4_isWrongHeader_63 ⟨Nat.le_of_ble_eq_true rfl, Nat.le_of_ble_eq_true rfl⟩) hS (fun r_49 h_47 H locs p_48 hR hS => ?_)
        obtain ⟨e_50, e_51⟩ := p_48
        rw [e_51] at hR
        rw [rwA_in (show 3 < z by omega) (by omega)] at e_50
        refine ah_toi e_50 ?_
        have hgb_52 := hg 3
        refine lv_if_ne (tgt := 82) hx hb dX4_isWrongHeader_66 (by decide) (fun c_53 => ?_) (fun c_53 => ?_)
        · skip
          have c_53 : ¬ ((g 3) = 0) := fun z9 => c_53 ((zi_eq (by omega)).mpr z9)
          refine lv_iconst (v := nI 0) hx hb dX4_isWrongHeader_82 (by decide) ?_
          refine lv_istore_n (lv' := [(2, .int (nI 0)), (0, .ref rd), (1, .ref r)]) hx hb dX4_isWrongHeader_83 rfl hl (by decide) rfl (fun ls hl => ?_)
          refine lv_iload_n hx hb dX4_isWrongHeader_84 rfl (lv_at hl 0 rfl) ?_
          refine lv_if_eq (tgt := 113) hx hb dX4_isWrongHeader_85 (by decide) (fun c_54 => ?_) (fun c_54 => ?_)
          · skip
            refine lv_iconst (v := nI 1) hx hb dX4_isWrongHeader_113 (by decide) ?_
            refine lv_goto (tgt := 118) hx hb dX4_isWrongHeader_114 (by decide) ?_
            refine ah_zret (v := nI 1) hx hb hr hlocks hR hS dX4_isWrongHeader_118 (by decide) ?_
            refine ⟨fun q => absurd q (by omega), fun _ => ⟨?_, ?_⟩⟩
            · first | (rw [if_pos (show hdrBad g by omega)]) | (rw [if_neg (show ¬ hdrBad g by omega)])
            · rw [e_34, e_22, e_10]; simp only [ah_up2]
          · skip
            exact absurd (by decide) c_54
        · skip
          have c_53 : (g 3) = 0 := (zi_eq (by omega)).mp c_53
          refine lv_aload_n hx hb dX4_isWrongHeader_69 rfl (lv_at hl 1 rfl) ?_
          refine lv_iconst (v := nI 4) hx hb dX4_isWrongHeader_70 (by decide) ?_
          refine ah_calli (va_runV (As := [.int (nI 4)]) (rest := []) ⟨hx, hb, hml, hown, hts⟩ (c_Row_byteAt l G h_33 r b tr tb n z g f_37 f_38 hne hz (by omega) (nI 4)) (cwV 1 hts gX4_isWrongHeader_X6_byteAt rfl rfl rfl (by decide +kernel) ⟨Nat.le_of_ble_eq_true rfl, Nat.le_of_ble_eq_true rfl⟩) (ah_preV hE hR hS f_37 rfl) rfl rfl hl.1 rfl (lv_room (Nat.le_of_ble_eq_true rfl)) dX4_isWrongHeader_71 ⟨Nat.le_of_ble_eq_true rfl, Nat.le_of_ble_eq_true rfl⟩) hS (fun r_57 h_55 H locs p_56 hR hS => ?_)
          obtain ⟨e_58, e_59⟩ := p_56
          rw [e_59] at hR
          rw [rwA_in (show 4 < z by omega) (by omega)] at e_58
          refine ah_toi e_58 ?_
          have hgb_60 := hg 4
          refine lv_iconst (v := nI 3) hx hb dX4_isWrongHeader_74 (by decide) ?_
          refine lv_icmp_ne (tgt := 82) hx hb dX4_isWrongHeader_75 (by decide) (fun c_61 => ?_) (fun c_61 => ?_)
          · skip
            have c_61 : ¬ ((g 4) = 3) := fun z9 => c_61 ((nI_eq (by omega) (by omega)).mpr z9)
            refine lv_iconst (v := nI 0) hx hb dX4_isWrongHeader_82 (by decide) ?_
            refine lv_istore_n (lv' := [(2, .int (nI 0)), (0, .ref rd), (1, .ref r)]) hx hb dX4_isWrongHeader_83 rfl hl (by decide) rfl (fun ls hl => ?_)
            refine lv_iload_n hx hb dX4_isWrongHeader_84 rfl (lv_at hl 0 rfl) ?_
            refine lv_if_eq (tgt := 113) hx hb dX4_isWrongHeader_85 (by decide) (fun c_62 => ?_) (fun c_62 => ?_)
            · skip
              refine lv_iconst (v := nI 1) hx hb dX4_isWrongHeader_113 (by decide) ?_
              refine lv_goto (tgt := 118) hx hb dX4_isWrongHeader_114 (by decide) ?_
              refine ah_zret (v := nI 1) hx hb hr hlocks hR hS dX4_isWrongHeader_118 (by decide) ?_
              refine ⟨fun q => absurd q (by omega), fun _ => ⟨?_, ?_⟩⟩
              · first | (rw [if_pos (show hdrBad g by omega)]) | (rw [if_neg (show ¬ hdrBad g by omega)])
              · rw [e_34, e_22, e_10]; simp only [ah_up2]
            · skip
              exact absurd (by decide) c_62
          · skip
            have c_61 : (g 4) = 3 := (nI_eq (by omega) (by omega)).mp c_61
            refine lv_iconst (v := nI 1) hx hb dX4_isWrongHeader_78 (by decide) ?_
            refine lv_goto (tgt := 83) hx hb dX4_isWrongHeader_79 (by decide) ?_
            refine lv_istore_n (lv' := [(2, .int (nI 1)), (0, .ref rd), (1, .ref r)]) hx hb dX4_isWrongHeader_83 rfl hl (by decide) rfl (fun ls hl => ?_)
            refine lv_iload_n hx hb dX4_isWrongHeader_84 rfl (lv_at hl 0 rfl) ?_
            refine lv_if_eq (tgt := 113) hx hb dX4_isWrongHeader_85 (by decide) (fun c_63 => ?_) (fun c_63 => ?_)
            · skip
              exact absurd c_63 (by decide)
            · skip
              refine lv_aload_n hx hb dX4_isWrongHeader_88 rfl (lv_at hl 1 rfl) ?_
              refine ah_get (ci := 3) (v := .int (nI (g 6))) (C := RX4) (T := TX4) (N := 7) hx hb hE hR hts hinX4 hown f_35 rfl 2 (by decide) k65 (fun _ h9 => h9) rfl dX4_isWrongHeader_89 ?_
              refine lv_if_eq (tgt := 113) hx hb dX4_isWrongHeader_92 (by decide) (fun c_64 => ?_) (fun c_64 => ?_)
              · skip
                have c_64 : (g 6) = 0 := (zi_eq (by omega)).mp c_64
                refine lv_iconst (v := nI 1) hx hb dX4_isWrongHeader_113 (by decide) ?_
                refine lv_goto (tgt := 118) hx hb dX4_isWrongHeader_114 (by decide) ?_
                refine ah_zret (v := nI 1) hx hb hr hlocks hR hS dX4_isWrongHeader_118 (by decide) ?_
                refine ⟨fun q => absurd q (by omega), fun _ => ⟨?_, ?_⟩⟩
                · first | (rw [if_pos (show hdrBad g by omega)]) | (rw [if_neg (show ¬ hdrBad g by omega)])
                · rw [e_34, e_22, e_10]; simp only [ah_up2]
              · skip
                have c_64 : ¬ ((g 6) = 0) := fun z9 => c_64 ((zi_eq (by omega)).mpr z9)
                refine lv_aload_n hx hb dX4_isWrongHeader_95 rfl (lv_at hl 1 rfl) ?_
                refine ah_get (ci := 3) (v := .int (nI (g 7))) (C := RX4) (T := TX4) (N := 7) hx hb hE hR hts hinX4 hown f_35 rfl 3 (by decide) k68 (fun _ h9 => h9) rfl dX4_isWrongHeader_96 ?_
                refine lv_if_eq (tgt := 113) hx hb dX4_isWrongHeader_99 (by decide) (fun c_65 => ?_) (fun c_65 => ?_)
                · skip
                  have c_65 : (g 7) = 0 := (zi_eq (by omega)).mp c_65
                  refine lv_iconst (v := nI 1) hx hb dX4_isWrongHeader_113 (by decide) ?_
                  refine lv_goto (tgt := 118) hx hb dX4_isWrongHeader_114 (by decide) ?_
                  refine ah_zret (v := nI 1) hx hb hr hlocks hR hS dX4_isWrongHeader_118 (by decide) ?_
                  refine ⟨fun q => absurd q (by omega), fun _ => ⟨?_, ?_⟩⟩
                  · first | (rw [if_pos (show hdrBad g by omega)]) | (rw [if_neg (show ¬ hdrBad g by omega)])
                  · rw [e_34, e_22, e_10]; simp only [ah_up2]
                · skip
                  have c_65 : ¬ ((g 7) = 0) := fun z9 => c_65 ((zi_eq (by omega)).mpr z9)
                  refine lv_aload_n hx hb dX4_isWrongHeader_102 rfl (lv_at hl 1 rfl) ?_
                  refine ah_get (ci := 3) (v := .int (nI (g 7))) (C := RX4) (T := TX4) (N := 7) hx hb hE hR hts hinX4 hown f_35 rfl 3 (by decide) k68 (fun _ h9 => h9) rfl dX4_isWrongHeader_103 ?_
                  refine lv_aload_n hx hb dX4_isWrongHeader_106 rfl (lv_at hl 1 rfl) ?_
                  refine ah_get (ci := 3) (v := .int (nI (g 6))) (C := RX4) (T := TX4) (N := 7) hx hb hE hR hts hinX4 hown f_35 rfl 2 (by decide) k65 (fun _ h9 => h9) rfl dX4_isWrongHeader_107 ?_
                  refine lv_icmp_le (tgt := 117) hx hb dX4_isWrongHeader_110 (by decide) (fun c_66 => ?_) (fun c_66 => ?_)
                  · skip
                    have c_66 : (g 7) ≤ (g 6) := (nI_leI (by omega) (by omega)).mp c_66
                    refine lv_iconst (v := nI 0) hx hb dX4_isWrongHeader_117 (by decide) ?_
                    refine ah_zret (v := nI 0) hx hb hr hlocks hR hS dX4_isWrongHeader_118 (by decide) ?_
                    refine ⟨fun q => absurd q (by omega), fun _ => ⟨?_, ?_⟩⟩
                    · first | (rw [if_pos (show hdrBad g by omega)]) | (rw [if_neg (show ¬ hdrBad g by omega)])
                    · rw [e_34, e_22, e_10]; simp only [ah_up2]
                  · skip
                    have c_66 : ¬ ((g 7) ≤ (g 6)) := fun z9 => c_66 ((nI_leI (by omega) (by omega)).mpr z9)
                    refine lv_iconst (v := nI 1) hx hb dX4_isWrongHeader_113 (by decide) ?_
                    refine lv_goto (tgt := 118) hx hb dX4_isWrongHeader_114 (by decide) ?_
                    refine ah_zret (v := nI 1) hx hb hr hlocks hR hS dX4_isWrongHeader_118 (by decide) ?_
                    refine ⟨fun q => absurd q (by omega), fun _ => ⟨?_, ?_⟩⟩
                    · first | (rw [if_pos (show hdrBad g by omega)]) | (rw [if_neg (show ¬ hdrBad g by omega)])
                    · rw [e_34, e_22, e_10]; simp only [ah_up2]
    · skip
      have c_2 : ¬ (7 ≤ el) := fun z9 => c_2 ((nI_leI (by omega) (by omega)).mpr z9)
      refine lv_iconst (v := nI 1) hx hb dX4_isWrongHeader_21 (by decide) ?_
      refine ah_zret (v := nI 1) hx hb hr hlocks hR hS dX4_isWrongHeader_22 (by decide) ?_
      exact ⟨fun _ => ⟨rfl, rfl⟩, fun q => absurd q (by omega)⟩
  · skip
    have c_1 : ¬ (bp = 0) := fun z9 => c_1 ((zi_eq (by omega)).mpr z9)
    have hlm : hlim bp = 6 := if_neg c_1
    refine lv_bipush (v := nI 6) hx hb dX4_isWrongHeader_11 (by decide) ?_
    refine lv_goto (tgt := 18) hx hb dX4_isWrongHeader_13 (by decide) ?_
    refine lv_icmp_ge (tgt := 23) hx hb dX4_isWrongHeader_18 (by decide) (fun c_67 => ?_) (fun c_67 => ?_)
    · skip
      have c_67 : 6 ≤ el := (nI_leI (by omega) (by omega)).mp c_67
      have h8z : 8 ≤ z := h8 (by omega)
      refine lv_aload_n hx hb dX4_isWrongHeader_23 rfl (lv_at hl 0 rfl) ?_
      refine lv_aload_n hx hb dX4_isWrongHeader_24 rfl (lv_at hl 1 rfl) ?_
      refine lv_iconst (v := nI 5) hx hb dX4_isWrongHeader_25 (by decide) ?_
      refine ah_calli (va_runV (As := [.int (nI 5)]) (rest := [.ref rd]) ⟨hx, hb, hml, hown, hts⟩ (c_Row_byteAt l G h r b tr tb n z g fr fb hne hz (by omega) (nI 5)) (cwV 1 hts gX4_isWrongHeader_X6_byteAt rfl rfl rfl (by decide +kernel) ⟨Nat.le_of_ble_eq_true rfl, Nat.le_of_ble_eq_true rfl⟩) (ah_preV hE hR hS fr rfl) rfl rfl hl.1 rfl (lv_room (Nat.le_of_ble_eq_true rfl)) dX4_isWrongHeader_26 ⟨Nat.le_of_ble_eq_true rfl, Nat.le_of_ble_eq_true rfl⟩) hS (fun r_70 h_68 H locs p_69 hR hS => ?_)
      obtain ⟨e_71, e_72⟩ := p_69
      rw [e_72] at hR
      rw [rwA_in (show 5 < z by omega) (by omega)] at e_71
      refine ah_toi e_71 ?_
      have hgb_73 := hg 5
      refine ah_put (ci := 3) (v := .int (nI (g 5))) (ty := .int) (C := RX4) (T := TX4) (N := 7) hx hb hE hR hS hts hinX4 tyX4 tyX4_ok nmX4 hown fd rfl 1 (by decide) k62 (fun _ h9 => h9) rfl (by decide +kernel) rfl rfl (Nat.le_of_ble_eq_true rfl) dX4_isWrongHeader_29 (fun H locs hR hS => ?_)
      obtain ⟨h_74, e_75⟩ : ∃ zz9, zz9 = ah_up h rd (10, .inr (3, [.int (nI hd), .int (nI (g 5)), .int (nI ps), .int (nI nm), .int (nI bp), .int (nI el), .ref ru])) := ⟨_, rfl⟩
      have hR : ah_R G h_74 H := by rw [e_75]; exact hR
      have f_76 : h_74 rd = some (10, .inr (3, [.int (nI hd), .int (nI (g 5)), .int (nI ps), .int (nI nm), .int (nI bp), .int (nI el), .ref ru])) := by rw [e_75]; exact ah_up_s _ _ _
      have f_77 : h_74 ru = some (11, .inl (G.2.2.1 0, 160, .inl (nA uf))) := by rw [e_75]; exact ah_keep fu fd (by omega)
      have f_78 : h_74 r = some (tr, .inr (5, [.ref b, .int (nI z)])) := by rw [e_75]; exact ah_keep fr fd (by omega)
      have f_79 : h_74 b = some (tb, .inl (G.2.2.1 0, n, .inl (nA g))) := by rw [e_75]; exact ah_keep fb fd (by omega)
      refine lv_aload_n hx hb dX4_isWrongHeader_32 rfl (lv_at hl 0 rfl) ?_
      refine lv_aload_n hx hb dX4_isWrongHeader_33 rfl (lv_at hl 1 rfl) ?_
      refine lv_bipush (v := nI 6) hx hb dX4_isWrongHeader_34 (by decide) ?_
      refine ah_calli (va_runV (As := [.int (nI 6)]) (rest := [.ref rd]) ⟨hx, hb, hml, hown, hts⟩ (c_Row_byteAt l G h_74 r b tr tb n z g f_78 f_79 hne hz (by omega) (nI 6)) (cwV 1 hts gX4_isWrongHeader_X6_byteAt rfl rfl rfl (by decide +kernel) ⟨Nat.le_of_ble_eq_true rfl, Nat.le_of_ble_eq_true rfl⟩) (ah_preV hE hR hS f_78 rfl) rfl rfl hl.1 rfl (lv_room (Nat.le_of_ble_eq_true rfl)) dX4_isWrongHeader_36 ⟨Nat.le_of_ble_eq_true rfl, Nat.le_of_ble_eq_true rfl⟩) hS (fun r_82 h_80 H locs p_81 hR hS => ?_)
      obtain ⟨e_83, e_84⟩ := p_81
      rw [e_84] at hR
      rw [rwA_in (show 6 < z by omega) (by omega)] at e_83
      refine ah_toi e_83 ?_
      have hgb_85 := hg 6
      refine ah_put (ci := 3) (v := .int (nI (g 6))) (ty := .int) (C := RX4) (T := TX4) (N := 7) hx hb hE hR hS hts hinX4 tyX4 tyX4_ok nmX4 hown f_76 rfl 2 (by decide) k65 (fun _ h9 => h9) rfl (by decide +kernel) rfl rfl (Nat.le_of_ble_eq_true rfl) dX4_isWrongHeader_39 (fun H locs hR hS => ?_)
      obtain ⟨h_86, e_87⟩ : ∃ zz9, zz9 = ah_up h_74 rd (10, .inr (3, [.int (nI hd), .int (nI (g 5)), .int (nI (g 6)), .int (nI nm), .int (nI bp), .int (nI el), .ref ru])) := ⟨_, rfl⟩
      have hR : ah_R G h_86 H := by rw [e_87]; exact hR
      have f_88 : h_86 rd = some (10, .inr (3, [.int (nI hd), .int (nI (g 5)), .int (nI (g 6)), .int (nI nm), .int (nI bp), .int (nI el), .ref ru])) := by rw [e_87]; exact ah_up_s _ _ _
      have f_89 : h_86 ru = some (11, .inl (G.2.2.1 0, 160, .inl (nA uf))) := by rw [e_87]; exact ah_keep f_77 f_76 (by omega)
      have f_90 : h_86 r = some (tr, .inr (5, [.ref b, .int (nI z)])) := by rw [e_87]; exact ah_keep f_78 f_76 (by omega)
      have f_91 : h_86 b = some (tb, .inl (G.2.2.1 0, n, .inl (nA g))) := by rw [e_87]; exact ah_keep f_79 f_76 (by omega)
      refine lv_aload_n hx hb dX4_isWrongHeader_42 rfl (lv_at hl 0 rfl) ?_
      refine lv_aload_n hx hb dX4_isWrongHeader_43 rfl (lv_at hl 1 rfl) ?_
      refine lv_bipush (v := nI 7) hx hb dX4_isWrongHeader_44 (by decide) ?_
      refine ah_calli (va_runV (As := [.int (nI 7)]) (rest := [.ref rd]) ⟨hx, hb, hml, hown, hts⟩ (c_Row_byteAt l G h_86 r b tr tb n z g f_90 f_91 hne hz (by omega) (nI 7)) (cwV 1 hts gX4_isWrongHeader_X6_byteAt rfl rfl rfl (by decide +kernel) ⟨Nat.le_of_ble_eq_true rfl, Nat.le_of_ble_eq_true rfl⟩) (ah_preV hE hR hS f_90 rfl) rfl rfl hl.1 rfl (lv_room (Nat.le_of_ble_eq_true rfl)) dX4_isWrongHeader_46 ⟨Nat.le_of_ble_eq_true rfl, Nat.le_of_ble_eq_true rfl⟩) hS (fun r_94 h_92 H locs p_93 hR hS => ?_)
      obtain ⟨e_95, e_96⟩ := p_93
      rw [e_96] at hR
      rw [rwA_in (show 7 < z by omega) (by omega)] at e_95
      refine ah_toi e_95 ?_
      have hgb_97 := hg 7
      refine ah_put (ci := 3) (v := .int (nI (g 7))) (ty := .int) (C := RX4) (T := TX4) (N := 7) hx hb hE hR hS hts hinX4 tyX4 tyX4_ok nmX4 hown f_88 rfl 3 (by decide) k68 (fun _ h9 => h9) rfl (by decide +kernel) rfl rfl (Nat.le_of_ble_eq_true rfl) dX4_isWrongHeader_49 (fun H locs hR hS => ?_)
      obtain ⟨h_98, e_99⟩ : ∃ zz9, zz9 = ah_up h_86 rd (10, .inr (3, [.int (nI hd), .int (nI (g 5)), .int (nI (g 6)), .int (nI (g 7)), .int (nI bp), .int (nI el), .ref ru])) := ⟨_, rfl⟩
      have hR : ah_R G h_98 H := by rw [e_99]; exact hR
      have f_100 : h_98 rd = some (10, .inr (3, [.int (nI hd), .int (nI (g 5)), .int (nI (g 6)), .int (nI (g 7)), .int (nI bp), .int (nI el), .ref ru])) := by rw [e_99]; exact ah_up_s _ _ _
      have f_101 : h_98 ru = some (11, .inl (G.2.2.1 0, 160, .inl (nA uf))) := by rw [e_99]; exact ah_keep f_89 f_88 (by omega)
      have f_102 : h_98 r = some (tr, .inr (5, [.ref b, .int (nI z)])) := by rw [e_99]; exact ah_keep f_90 f_88 (by omega)
      have f_103 : h_98 b = some (tb, .inl (G.2.2.1 0, n, .inl (nA g))) := by rw [e_99]; exact ah_keep f_91 f_88 (by omega)
      refine lv_aload_n hx hb dX4_isWrongHeader_52 rfl (lv_at hl 1 rfl) ?_
      refine lv_iconst (v := nI 2) hx hb dX4_isWrongHeader_53 (by decide) ?_
      refine ah_calli (va_runV (As := [.int (nI 2)]) (rest := []) ⟨hx, hb, hml, hown, hts⟩ (c_Row_byteAt l G h_98 r b tr tb n z g f_102 f_103 hne hz (by omega) (nI 2)) (cwV 1 hts gX4_isWrongHeader_X6_byteAt rfl rfl rfl (by decide +kernel) ⟨Nat.le_of_ble_eq_true rfl, Nat.le_of_ble_eq_true rfl⟩) (ah_preV hE hR hS f_102 rfl) rfl rfl hl.1 rfl (lv_room (Nat.le_of_ble_eq_true rfl)) dX4_isWrongHeader_54 ⟨Nat.le_of_ble_eq_true rfl, Nat.le_of_ble_eq_true rfl⟩) hS (fun r_106 h_104 H locs p_105 hR hS => ?_)
      obtain ⟨e_107, e_108⟩ := p_105
      rw [e_108] at hR
      rw [rwA_in (show 2 < z by omega) (by omega)] at e_107
      refine ah_toi e_107 ?_
      have hgb_109 := hg 2
      refine lv_iconst (v := nI 5) hx hb dX4_isWrongHeader_57 (by decide) ?_
      refine lv_icmp_ne (tgt := 82) hx hb dX4_isWrongHeader_58 (by decide) (fun c_110 => ?_) (fun c_110 => ?_)
      · skip
        have c_110 : ¬ ((g 2) = 5) := fun z9 => c_110 ((nI_eq (by omega) (by omega)).mpr z9)
        refine lv_iconst (v := nI 0) hx hb dX4_isWrongHeader_82 (by decide) ?_
        refine lv_istore_n (lv' := [(2, .int (nI 0)), (0, .ref rd), (1, .ref r)]) hx hb dX4_isWrongHeader_83 rfl hl (by decide) rfl (fun ls hl => ?_)
        refine lv_iload_n hx hb dX4_isWrongHeader_84 rfl (lv_at hl 0 rfl) ?_
        refine lv_if_eq (tgt := 113) hx hb dX4_isWrongHeader_85 (by decide) (fun c_111 => ?_) (fun c_111 => ?_)
        · skip
          refine lv_iconst (v := nI 1) hx hb dX4_isWrongHeader_113 (by decide) ?_
          refine lv_goto (tgt := 118) hx hb dX4_isWrongHeader_114 (by decide) ?_
          refine ah_zret (v := nI 1) hx hb hr hlocks hR hS dX4_isWrongHeader_118 (by decide) ?_
          refine ⟨fun q => absurd q (by omega), fun _ => ⟨?_, ?_⟩⟩
          · first | (rw [if_pos (show hdrBad g by omega)]) | (rw [if_neg (show ¬ hdrBad g by omega)])
          · rw [e_99, e_87, e_75]; simp only [ah_up2]
        · skip
          exact absurd (by decide) c_111
      · skip
        have c_110 : (g 2) = 5 := (nI_eq (by omega) (by omega)).mp c_110
        refine lv_aload_n hx hb dX4_isWrongHeader_61 rfl (lv_at hl 1 rfl) ?_
        refine lv_iconst (v := nI 3) hx hb dX4_isWrongHeader_62 (by decide) ?_
        refine ah_calli (va_runV (As := [.int (nI 3)]) (rest := []) ⟨hx, hb, hml, hown, hts⟩ (c_Row_byteAt l G h_98 r b tr tb n z g f_102 f_103 hne hz (by omega) (nI 3)) (cwV 1 hts gX4_isWrongHeader_X6_byteAt rfl rfl rfl (by decide +kernel) ⟨Nat.le_of_ble_eq_true rfl, Nat.le_of_ble_eq_true rfl⟩) (ah_preV hE hR hS f_102 rfl) rfl rfl hl.1 rfl (lv_room (Nat.le_of_ble_eq_true rfl)) dX4_isWrongHeader_63 ⟨Nat.le_of_ble_eq_true rfl, Nat.le_of_ble_eq_true rfl⟩) hS (fun r_114 h_112 H locs p_113 hR hS => ?_)
        obtain ⟨e_115, e_116⟩ := p_113
        rw [e_116] at hR
        rw [rwA_in (show 3 < z by omega) (by omega)] at e_115
        refine ah_toi e_115 ?_
        have hgb_117 := hg 3
        refine lv_if_ne (tgt := 82) hx hb dX4_isWrongHeader_66 (by decide) (fun c_118 => ?_) (fun c_118 => ?_)
        · skip
          have c_118 : ¬ ((g 3) = 0) := fun z9 => c_118 ((zi_eq (by omega)).mpr z9)
          refine lv_iconst (v := nI 0) hx hb dX4_isWrongHeader_82 (by decide) ?_
          refine lv_istore_n (lv' := [(2, .int (nI 0)), (0, .ref rd), (1, .ref r)]) hx hb dX4_isWrongHeader_83 rfl hl (by decide) rfl (fun ls hl => ?_)
          refine lv_iload_n hx hb dX4_isWrongHeader_84 rfl (lv_at hl 0 rfl) ?_
          refine lv_if_eq (tgt := 113) hx hb dX4_isWrongHeader_85 (by decide) (fun c_119 => ?_) (fun c_119 => ?_)
          · skip
            refine lv_iconst (v := nI 1) hx hb dX4_isWrongHeader_113 (by decide) ?_
            refine lv_goto (tgt := 118) hx hb dX4_isWrongHeader_114 (by decide) ?_
            refine ah_zret (v := nI 1) hx hb hr hlocks hR hS dX4_isWrongHeader_118 (by decide) ?_
            refine ⟨fun q => absurd q (by omega), fun _ => ⟨?_, ?_⟩⟩
            · first | (rw [if_pos (show hdrBad g by omega)]) | (rw [if_neg (show ¬ hdrBad g by omega)])
            · rw [e_99, e_87, e_75]; simp only [ah_up2]
          · skip
            exact absurd (by decide) c_119
        · skip
          have c_118 : (g 3) = 0 := (zi_eq (by omega)).mp c_118
          refine lv_aload_n hx hb dX4_isWrongHeader_69 rfl (lv_at hl 1 rfl) ?_
          refine lv_iconst (v := nI 4) hx hb dX4_isWrongHeader_70 (by decide) ?_
          refine ah_calli (va_runV (As := [.int (nI 4)]) (rest := []) ⟨hx, hb, hml, hown, hts⟩ (c_Row_byteAt l G h_98 r b tr tb n z g f_102 f_103 hne hz (by omega) (nI 4)) (cwV 1 hts gX4_isWrongHeader_X6_byteAt rfl rfl rfl (by decide +kernel) ⟨Nat.le_of_ble_eq_true rfl, Nat.le_of_ble_eq_true rfl⟩) (ah_preV hE hR hS f_102 rfl) rfl rfl hl.1 rfl (lv_room (Nat.le_of_ble_eq_true rfl)) dX4_isWrongHeader_71 ⟨Nat.le_of_ble_eq_true rfl, Nat.le_of_ble_eq_true rfl⟩) hS (fun r_122 h_120 H locs p_121 hR hS => ?_)
          obtain ⟨e_123, e_124⟩ := p_121
          rw [e_124] at hR
          rw [rwA_in (show 4 < z by omega) (by omega)] at e_123
          refine ah_toi e_123 ?_
          have hgb_125 := hg 4
          refine lv_iconst (v := nI 3) hx hb dX4_isWrongHeader_74 (by decide) ?_
          refine lv_icmp_ne (tgt := 82) hx hb dX4_isWrongHeader_75 (by decide) (fun c_126 => ?_) (fun c_126 => ?_)
          · skip
            have c_126 : ¬ ((g 4) = 3) := fun z9 => c_126 ((nI_eq (by omega) (by omega)).mpr z9)
            refine lv_iconst (v := nI 0) hx hb dX4_isWrongHeader_82 (by decide) ?_
            refine lv_istore_n (lv' := [(2, .int (nI 0)), (0, .ref rd), (1, .ref r)]) hx hb dX4_isWrongHeader_83 rfl hl (by decide) rfl (fun ls hl => ?_)
            refine lv_iload_n hx hb dX4_isWrongHeader_84 rfl (lv_at hl 0 rfl) ?_
            refine lv_if_eq (tgt := 113) hx hb dX4_isWrongHeader_85 (by decide) (fun c_127 => ?_) (fun c_127 => ?_)
            · skip
              refine lv_iconst (v := nI 1) hx hb dX4_isWrongHeader_113 (by decide) ?_
              refine lv_goto (tgt := 118) hx hb dX4_isWrongHeader_114 (by decide) ?_
              refine ah_zret (v := nI 1) hx hb hr hlocks hR hS dX4_isWrongHeader_118 (by decide) ?_
              refine ⟨fun q => absurd q (by omega), fun _ => ⟨?_, ?_⟩⟩
              · first | (rw [if_pos (show hdrBad g by omega)]) | (rw [if_neg (show ¬ hdrBad g by omega)])
              · rw [e_99, e_87, e_75]; simp only [ah_up2]
            · skip
              exact absurd (by decide) c_127
          · skip
            have c_126 : (g 4) = 3 := (nI_eq (by omega) (by omega)).mp c_126
            refine lv_iconst (v := nI 1) hx hb dX4_isWrongHeader_78 (by decide) ?_
            refine lv_goto (tgt := 83) hx hb dX4_isWrongHeader_79 (by decide) ?_
            refine lv_istore_n (lv' := [(2, .int (nI 1)), (0, .ref rd), (1, .ref r)]) hx hb dX4_isWrongHeader_83 rfl hl (by decide) rfl (fun ls hl => ?_)
            refine lv_iload_n hx hb dX4_isWrongHeader_84 rfl (lv_at hl 0 rfl) ?_
            refine lv_if_eq (tgt := 113) hx hb dX4_isWrongHeader_85 (by decide) (fun c_128 => ?_) (fun c_128 => ?_)
            · skip
              exact absurd c_128 (by decide)
            · skip
              refine lv_aload_n hx hb dX4_isWrongHeader_88 rfl (lv_at hl 1 rfl) ?_
              refine ah_get (ci := 3) (v := .int (nI (g 6))) (C := RX4) (T := TX4) (N := 7) hx hb hE hR hts hinX4 hown f_100 rfl 2 (by decide) k65 (fun _ h9 => h9) rfl dX4_isWrongHeader_89 ?_
              refine lv_if_eq (tgt := 113) hx hb dX4_isWrongHeader_92 (by decide) (fun c_129 => ?_) (fun c_129 => ?_)
              · skip
                have c_129 : (g 6) = 0 := (zi_eq (by omega)).mp c_129
                refine lv_iconst (v := nI 1) hx hb dX4_isWrongHeader_113 (by decide) ?_
                refine lv_goto (tgt := 118) hx hb dX4_isWrongHeader_114 (by decide) ?_
                refine ah_zret (v := nI 1) hx hb hr hlocks hR hS dX4_isWrongHeader_118 (by decide) ?_
                refine ⟨fun q => absurd q (by omega), fun _ => ⟨?_, ?_⟩⟩
                · first | (rw [if_pos (show hdrBad g by omega)]) | (rw [if_neg (show ¬ hdrBad g by omega)])
                · rw [e_99, e_87, e_75]; simp only [ah_up2]
              · skip
                have c_129 : ¬ ((g 6) = 0) := fun z9 => c_129 ((zi_eq (by omega)).mpr z9)
                refine lv_aload_n hx hb dX4_isWrongHeader_95 rfl (lv_at hl 1 rfl) ?_
                refine ah_get (ci := 3) (v := .int (nI (g 7))) (C := RX4) (T := TX4) (N := 7) hx hb hE hR hts hinX4 hown f_100 rfl 3 (by decide) k68 (fun _ h9 => h9) rfl dX4_isWrongHeader_96 ?_
                refine lv_if_eq (tgt := 113) hx hb dX4_isWrongHeader_99 (by decide) (fun c_130 => ?_) (fun c_130 => ?_)
                · skip
                  have c_130 : (g 7) = 0 := (zi_eq (by omega)).mp c_130
                  refine lv_iconst (v := nI 1) hx hb dX4_isWrongHeader_113 (by decide) ?_
                  refine lv_goto (tgt := 118) hx hb dX4_isWrongHeader_114 (by decide) ?_
                  refine ah_zret (v := nI 1) hx hb hr hlocks hR hS dX4_isWrongHeader_118 (by decide) ?_
                  refine ⟨fun q => absurd q (by omega), fun _ => ⟨?_, ?_⟩⟩
                  · first | (rw [if_pos (show hdrBad g by omega)]) | (rw [if_neg (show ¬ hdrBad g by omega)])
                  · rw [e_99, e_87, e_75]; simp only [ah_up2]
                · skip
                  have c_130 : ¬ ((g 7) = 0) := fun z9 => c_130 ((zi_eq (by omega)).mpr z9)
                  refine lv_aload_n hx hb dX4_isWrongHeader_102 rfl (lv_at hl 1 rfl) ?_
                  refine ah_get (ci := 3) (v := .int (nI (g 7))) (C := RX4) (T := TX4) (N := 7) hx hb hE hR hts hinX4 hown f_100 rfl 3 (by decide) k68 (fun _ h9 => h9) rfl dX4_isWrongHeader_103 ?_
                  refine lv_aload_n hx hb dX4_isWrongHeader_106 rfl (lv_at hl 1 rfl) ?_
                  refine ah_get (ci := 3) (v := .int (nI (g 6))) (C := RX4) (T := TX4) (N := 7) hx hb hE hR hts hinX4 hown f_100 rfl 2 (by decide) k65 (fun _ h9 => h9) rfl dX4_isWrongHeader_107 ?_
                  refine lv_icmp_le (tgt := 117) hx hb dX4_isWrongHeader_110 (by decide) (fun c_131 => ?_) (fun c_131 => ?_)
                  · skip
                    have c_131 : (g 7) ≤ (g 6) := (nI_leI (by omega) (by omega)).mp c_131
                    refine lv_iconst (v := nI 0) hx hb dX4_isWrongHeader_117 (by decide) ?_
                    refine ah_zret (v := nI 0) hx hb hr hlocks hR hS dX4_isWrongHeader_118 (by decide) ?_
                    refine ⟨fun q => absurd q (by omega), fun _ => ⟨?_, ?_⟩⟩
                    · first | (rw [if_pos (show hdrBad g by omega)]) | (rw [if_neg (show ¬ hdrBad g by omega)])
                    · rw [e_99, e_87, e_75]; simp only [ah_up2]
                  · skip
                    have c_131 : ¬ ((g 7) ≤ (g 6)) := fun z9 => c_131 ((nI_leI (by omega) (by omega)).mpr z9)
                    refine lv_iconst (v := nI 1) hx hb dX4_isWrongHeader_113 (by decide) ?_
                    refine lv_goto (tgt := 118) hx hb dX4_isWrongHeader_114 (by decide) ?_
                    refine ah_zret (v := nI 1) hx hb hr hlocks hR hS dX4_isWrongHeader_118 (by decide) ?_
                    refine ⟨fun q => absurd q (by omega), fun _ => ⟨?_, ?_⟩⟩
                    · first | (rw [if_pos (show hdrBad g by omega)]) | (rw [if_neg (show ¬ hdrBad g by omega)])
                    · rw [e_99, e_87, e_75]; simp only [ah_up2]
    · skip
      have c_67 : ¬ (6 ≤ el) := fun z9 => c_67 ((nI_leI (by omega) (by omega)).mpr z9)
      refine lv_iconst (v := nI 1) hx hb dX4_isWrongHeader_21 (by decide) ?_
      refine ah_zret (v := nI 1) hx hb hr hlocks hR hS dX4_isWrongHeader_22 (by decide) ?_
      exact ⟨fun _ => ⟨rfl, rfl⟩, fun q => absurd q (by omega)⟩
