/-! ===== TextParts$Inbox: heaps ===== -/
/-- a heap: its address, its pieces' address, sender, reference, how many parts, how many are there, their units, when it was put to last, the pieces, their texts -/
abbrev hDt : Type := Nat × Nat × Nat × Nat × Nat × Nat × Nat × Nat × (Nat → Option Nat) × (Nat → Option (List Nat))
abbrev d_a (d : hDt) : Nat := d.1
abbrev d_p (d : hDt) : Nat := d.2.1
abbrev d_s (d : hDt) : Nat := d.2.2.1
abbrev d_r (d : hDt) : Nat := d.2.2.2.1
abbrev d_n (d : hDt) : Nat := d.2.2.2.2.1
abbrev d_t (d : hDt) : Nat := d.2.2.2.2.2.1
abbrev d_u (d : hDt) : Nat := d.2.2.2.2.2.2.1
abbrev d_l (d : hDt) : Nat := d.2.2.2.2.2.2.2.1
abbrev d_f (d : hDt) : Nat → Option Nat := d.2.2.2.2.2.2.2.2.1
abbrev d_L (d : hDt) : Nat → Option (List Nat) := d.2.2.2.2.2.2.2.2.2
def pcOk (G : ah_G) (h : ah_H) (o : Option Nat) (m : Option (List Nat)) : Prop := match o, m with
  | none, none => True
  | some q, some L => pieceOk G h q L
  | _, _ => False
abbrev hTag (t : Nat) : Prop := t = 800 ∨ t = 801 ∨ t = 900 ∨ t = 901
theorem pcOk.frame {G : ah_G} {h h' : ah_H} {o : Option Nat} {m : Option (List Nat)} (x : pcOk G h o m) (y : agr hTag h h') : pcOk G h' o m := by
  unfold pcOk at x ⊢
  split
  · trivial
  · exact pieceOk.frame x (y.weak (fun t q => by unfold hTag; omega))
  · next h1 h2 => cases o with
    | none => cases m with
      | none => exact absurd rfl (h1 rfl)
      | some L => exact x
    | some q => cases m with
      | none => exact x
      | some L => exact absurd rfl (h2 q L rfl)
/-- how many of the first n are there; their units -/
def cntS (Lf : Nat → Option (List Nat)) : Nat → Nat
  | 0 => 0
  | k + 1 => cntS Lf k + (if (Lf k).isSome then 1 else 0)
def sumU (Lf : Nat → Option (List Nat)) : Nat → Nat
  | 0 => 0
  | k + 1 => sumU Lf k + ((Lf k).getD []).length
theorem cntS_le (Lf : Nat → Option (List Nat)) : ∀ n, cntS Lf n ≤ n
  | 0 => Nat.le_refl 0
  | n + 1 => by have := cntS_le Lf n; unfold cntS; split <;> omega
theorem cntS_full {Lf : Nat → Option (List Nat)} : ∀ n, cntS Lf n = n → ∀ k, k < n → ∃ L, Lf k = some L
  | 0, _, k, hk => absurd hk (Nat.not_lt_zero k)
  | n + 1, h, k, hk => by
    have h1 := cntS_le Lf n
    unfold cntS at h
    by_cases e : (Lf n).isSome
    · rw [if_pos e] at h
      by_cases q : k = n
      · rw [q]; exact Option.isSome_iff_exists.mp e
      · exact cntS_full n (by omega) k (by omega)
    · rw [if_neg e] at h; omega
theorem cntS_up {Lf : Nat → Option (List Nat)} {k : Nat} {L : List Nat} (h : Lf k = none) : ∀ n, cntS (va_up Lf k (some L)) n = cntS Lf n + (if k < n then 1 else 0)
  | 0 => by rw [if_neg (Nat.not_lt_zero k)]; rfl
  | n + 1 => by
    unfold cntS
    rw [cntS_up h n]
    by_cases e : n = k
    · subst e; rw [va_up_self, h]; simp
    · rw [va_up_ne _ _ e]
      by_cases q : k < n
      · rw [if_pos q, if_pos (show k < n + 1 by omega)]; omega
      · rw [if_neg q, if_neg (show ¬ k < n + 1 by omega)]; omega
theorem sumU_up {Lf : Nat → Option (List Nat)} {k : Nat} {L : List Nat} (h : Lf k = none) : ∀ n, sumU (va_up Lf k (some L)) n = sumU Lf n + (if k < n then L.length else 0)
  | 0 => by rw [if_neg (Nat.not_lt_zero k)]; rfl
  | n + 1 => by
    unfold sumU
    rw [sumU_up h n]
    by_cases e : n = k
    · subst e; rw [va_up_self, h]; simp
    · rw [va_up_ne _ _ e]
      by_cases q : k < n
      · rw [if_pos q, if_pos (show k < n + 1 by omega)]; omega
      · rw [if_neg q, if_neg (show ¬ k < n + 1 by omega)]; omega
def heapOk (G : ah_G) (h : ah_H) (d : hDt) : Prop :=
  h (d_a d) = some (800, .inr (0, [.int (nI (d_s d)), .int (nI (d_r d)), .ref (d_p d), .int (nI (d_t d)), .int (nI (d_u d)), .int (nI (d_l d))])) ∧
  h (d_p d) = some (801, .inl (G.2.2.1 2, d_n d, .inr (.inr (.inr (.inr (d_f d)))))) ∧
  (∀ k, k < d_n d → pcOk G h (d_f d k) (d_L d k)) ∧
  (d_s d ≤ 999 ∧ d_r d < 256 ∧ 1 ≤ d_n d ∧ d_n d ≤ 255 ∧ d_t d ≤ 255 ∧ d_u d ≤ 160 * d_t d ∧ d_l d < 2 ^ 20 ∧ d_t d = cntS (d_L d) (d_n d) ∧ d_u d = sumU (d_L d) (d_n d))
theorem heapOk.frame {G : ah_G} {h h' : ah_H} {d : hDt} (x : heapOk G h d) (y : agr hTag h h') : heapOk G h' d := by
  obtain ⟨a, b, c, e⟩ := x
  exact ⟨y _ _ _ (Or.inl rfl) a, y _ _ _ (Or.inr (Or.inl rfl)) b, fun k hk => (c k hk).frame y, e⟩
def ibOk (G : ah_G) (h : ah_H) (c : Nat) (D : Nat → hDt) (hf : Nat → Option Nat) : Prop :=
  (∀ i, i < c → hf i = some (d_a (D i)) ∧ heapOk G h (D i)) ∧ (∀ i, c ≤ i → hf i = none) ∧
  (∀ i j, i < c → j < c → d_a (D i) = d_a (D j) → i = j) ∧ (∀ i j, i < c → j < c → d_p (D i) = d_p (D j) → i = j)
theorem ibOk.frame {G : ah_G} {h h' : ah_H} {c : Nat} {D : Nat → hDt} {hf : Nat → Option Nat} (x : ibOk G h c D hf) (y : agr hTag h h') : ibOk G h' c D hf :=
  ⟨fun i hi => ⟨(x.1 i hi).1, (x.1 i hi).2.frame y⟩, x.2⟩
theorem ibOk.ob {G : ah_G} {h : ah_H} {c : Nat} {D : Nat → hDt} {hf : Nat → Option Nat} (x : ibOk G h c D hf) : ∀ i, i < c → ∃ (a : Nat) (vs : List Value), hf i = some a ∧ h a = some (800, .inr (0, vs)) := fun i hi => ⟨_, _, (x.1 i hi).1, (x.1 i hi).2.1⟩
def shf {α : Type} (D : Nat → α) (k : Nat) : Nat → α := fun i => if i < k then D i else D (i + 1)
def rmF (hf : Nat → Option Nat) (k i : Nat) : Nat → Option Nat := fun j => if j < k then hf j else if j < i then hf (j + 1) else hf j
theorem rmF_0 (hf : Nat → Option Nat) (k : Nat) : rmF hf k k = hf := by
  funext j; unfold rmF
  by_cases h : j < k
  · rw [if_pos h]
  · rw [if_neg h, if_neg h]
theorem rmF_s {hf : Nat → Option Nat} {k i : Nat} (h : k ≤ i) : va_up (rmF hf k i) i (hf (i + 1)) = rmF hf k (i + 1) := by
  funext j
  by_cases e : j = i
  · subst e; rw [va_up_self]; unfold rmF; rw [if_neg (by omega), if_pos (by omega)]
  · rw [va_up_ne _ _ e]; unfold rmF
    by_cases h1 : j < k
    · rw [if_pos h1, if_pos h1]
    · rw [if_neg h1, if_neg h1]
      by_cases h2 : j < i
      · rw [if_pos h2, if_pos (by omega)]
      · rw [if_neg h2, if_neg (by omega)]
def rmA (hf : Nat → Option Nat) (c k : Nat) : Nat → Option Nat := va_up (rmF hf k (c - 1)) (c - 1) none
theorem ibOk.remove {G : ah_G} {h : ah_H} {c k : Nat} {D : Nat → hDt} {hf : Nat → Option Nat} (x : ibOk G h c D hf) (hk : k < c) : ibOk G h (c - 1) (shf D k) (rmA hf c k) := by
  obtain ⟨x1, x2, x3, x4⟩ := x
  have key : ∀ i, i < c - 1 → ∃ j, j < c ∧ shf D k i = D j ∧ rmA hf c k i = hf j ∧ (i < k ∧ j = i ∨ k ≤ i ∧ j = i + 1) := by
    intro i hi
    unfold rmA shf
    rw [va_up_ne _ _ (show i ≠ c - 1 by omega)]
    unfold rmF
    by_cases h1 : i < k
    · exact ⟨i, by omega, by rw [if_pos h1], by rw [if_pos h1], Or.inl ⟨h1, rfl⟩⟩
    · exact ⟨i + 1, by omega, by rw [if_neg h1], by rw [if_neg h1, if_pos hi], Or.inr ⟨by omega, rfl⟩⟩
  refine ⟨fun i hi => ?_, fun i hi => ?_, fun i j hi hj e => ?_, fun i j hi hj e => ?_⟩
  · obtain ⟨j, h1, h2, h3, -⟩ := key i hi
    rw [h2, h3]; exact x1 j h1
  · unfold rmA
    by_cases e : i = c - 1
    · rw [e, va_up_self]
    · rw [va_up_ne _ _ e]; unfold rmF
      rw [if_neg (by omega), if_neg (by omega)]; exact x2 i (by omega)
  · obtain ⟨a, a1, a2, -, a3⟩ := key i hi
    obtain ⟨b, b1, b2, -, b3⟩ := key j hj
    rw [a2, b2] at e
    have := x3 a b a1 b1 e
    omega
  · obtain ⟨a, a1, a2, -, a3⟩ := key i hi
    obtain ⟨b, b1, b2, -, b3⟩ := key j hj
    rw [a2, b2] at e
    have := x4 a b a1 b1 e
    omega
/-- which heap was put to longest ago: fuel, place, found so far -/
def luR (lp : Nat → Nat) : Nat → Nat → Nat → Nat
  | 0, _, o => o
  | m + 1, i, o => luR lp m (i + 1) (if lp i < lp o then i else o)
theorem luR_lt {lp : Nat → Nat} {c : Nat} : ∀ (m i o : Nat), o < c → i + m ≤ c → luR lp m i o < c
  | 0, _, _, h, _ => h
  | m + 1, i, o, h, h2 => luR_lt m (i + 1) _ (by split <;> omega) (by omega)
abbrev isH (D : Nat → hDt) (s r p i : Nat) : Prop := d_s (D i) = s ∧ d_r (D i) = r ∧ d_n (D i) = p
theorem isH_step {D : Nat → hDt} {s r p i : Nat} (h : ∀ j, j < i → ¬ isH D s r p j) (hi : ¬ isH D s r p i) : ∀ j, j < i + 1 → ¬ isH D s r p j := by
  intro j hj
  by_cases e : j = i
  · rw [e]; exact hi
  · exact h j (by omega)

set_option maxHeartbeats 4000000 in
set_option maxRecDepth 100000 in
theorem c_Ib_removeHeap (l : Launch) (G : ah_G) (h : ah_H) (ib hp rd c pt : Nat) (lo : Option Nat) (hf : Nat → Option Nat) (fi : h ib = some (8, .inr (1, [.ref rd, .ref hp, .int (nI c), .int (nI pt), va_rf lo]))) (fp : h hp = some (9, .inl (G.2.2.1 1, 16, .inr (.inr (.inr (.inr hf)))))) (hc : c ≤ 16) (hob : ∀ i, i < c → ∃ (a : Nat) (vs : List Value), hf i = some a ∧ h a = some (800, .inr (0, vs))) (k : Nat) (hk : k < c) : Met l yX2_removeHeap wsX2_removeHeap ({ frames := 0, cells := 0, slots := 0, locals := 0 }) (ah_Pc G [.ref ib, .int (nI k)] h) (ah_Qv G (fun h' => h' = ah_up (ah_up h ib (8, .inr (1, [.ref rd, .ref hp, .int (nI (c - 1)), .int (nI pt), va_rf lo]))) hp (9, .inl (G.2.2.1 1, 16, .inr (.inr (.inr (.inr (rmA hf c k)))))))) 0 0 (ah_A G) := by
  refine ah_ofW (cc := cX2_removeHeap) (maxL := 3) (ret := none) (by decide) rfl (Nat.le_of_ble_eq_true rfl) ?_
  intro p e s m below meth cd9 ls hx hb hr hml hown hlocks hname hts hE hR hS hl
  have hown : s.vm.findClass RX2 = some m.cls := hown
  have hl : lv_has ls 3 [(0, .ref ib), (1, .int (nI k))] := hl
  have k58 := hts (.fieldLink RX2 58 "TextParts$Inbox" "heapCount" "I") (by decide +kernel)
  have hinX2 : ∀ w ∈ wsX20, w ∈ wsX2_removeHeap := by decide +kernel
  have k20 := hts (.fieldLink RX2 20 "TextParts$Inbox" "heaps" "[LTextParts$Heap;") (by decide +kernel)
  refine lv_iload_n hx hb dX2_removeHeap_0 rfl (lv_at hl 1 rfl) ?_
  refine lv_if_lt (tgt := 24) hx hb dX2_removeHeap_1 (by decide) (fun c_1 => ?_) (fun c_1 => ?_)
  · skip
    exact absurd c_1 (nI_pos (by omega))
  · skip
    refine lv_iload_n hx hb dX2_removeHeap_4 rfl (lv_at hl 1 rfl) ?_
    refine lv_aload_n hx hb dX2_removeHeap_5 rfl (lv_at hl 0 rfl) ?_
    refine ah_get (ci := 1) (v := .int (nI c)) (C := RX2) (T := TX2) (N := 5) hx hb hE hR hts hinX2 hown fi rfl 2 (by decide) k58 (fun _ h9 => h9) rfl dX2_removeHeap_6 ?_
    refine lv_icmp_ge (tgt := 24) hx hb dX2_removeHeap_9 (by decide) (fun c_2 => ?_) (fun c_2 => ?_)
    · skip
      have c_2 : c ≤ k := (nI_leI (by omega) (by omega)).mp c_2
      exact absurd c_2 (by omega)
    · skip
      have c_2 : ¬ (c ≤ k) := fun z9 => c_2 ((nI_leI (by omega) (by omega)).mpr z9)
      refine lv_aload_n hx hb dX2_removeHeap_12 rfl (lv_at hl 0 rfl) ?_
      refine ah_get (ci := 1) (v := .int (nI c)) (C := RX2) (T := TX2) (N := 5) hx hb hE hR hts hinX2 hown fi rfl 2 (by decide) k58 (fun _ h9 => h9) rfl dX2_removeHeap_13 ?_
      refine lv_aload_n hx hb dX2_removeHeap_16 rfl (lv_at hl 0 rfl) ?_
      refine ah_get (ci := 1) (v := .ref hp) (C := RX2) (T := TX2) (N := 5) hx hb hE hR hts hinX2 hown fi rfl 1 (by decide) k20 (fun _ h9 => h9) rfl dX2_removeHeap_17 ?_
      refine ah_alen hx hb hE hR fp (show (ah_tys G)[1]? = some _ from rfl) dX2_removeHeap_20 ?_
      refine lv_icmp_le (tgt := 25) hx hb dX2_removeHeap_21 (by decide) (fun c_3 => ?_) (fun c_3 => ?_)
      · skip
        have c_3 : c ≤ 16 := (nI_leI (by omega) (by omega)).mp c_3
        refine lv_iload_n hx hb dX2_removeHeap_25 rfl (lv_at hl 1 rfl) ?_
        refine lv_istore_n (lv' := [(2, .int (nI k)), (0, .ref ib), (1, .int (nI k))]) hx hb dX2_removeHeap_26 rfl hl (by decide) rfl (fun ls hl => ?_)
        have fp0 : h hp = some (9, .inl (G.2.2.1 1, 16, .inr (.inr (.inr (.inr (rmF hf k k)))))) := by rw [rmF_0]; exact fp
        have L27 : ∀ (N27 : Nat) (i : Nat) (h1 : ah_H) (H : Heap) (locs : List Loc) (ls : Array Slot), c - i < N27 → (k ≤ i) → (i < c) → (h1 = ah_up h hp (9, .inl (G.2.2.1 1, 16, .inr (.inr (.inr (.inr (rmF hf k i))))))) → (h1 ib = some (8, .inr (1, [.ref rd, .ref hp, .int (nI c), .int (nI pt), va_rf lo]))) → (h1 hp = some (9, .inl (G.2.2.1 1, 16, .inr (.inr (.inr (.inr (rmF hf k i))))))) → ah_R G h1 H → va_S (ah_A G) s.heap H locs → lv_has ls 3 [(2, .int (nI i)), (0, .ref ib), (1, .int (nI k))] → W p l e ({ frames := 0, cells := 0, slots := 0, locals := 0 }) s m ([.ref ib, .int (nI k)] : List Value).toArray below meth cd9 H locs 0 0 (MQ below (ah_Qv G (fun h' => h' = ah_up (ah_up h ib (8, .inr (1, [.ref rd, .ref hp, .int (nI (c - 1)), .int (nI pt), va_rf lo]))) hp (9, .inl (G.2.2.1 1, 16, .inr (.inr (.inr (.inr (rmA hf c k)))))))) ([.ref ib, .int (nI k)] : List Value).toArray s 0 0 (ah_A G)) (F0 m 27 ls []) := by
          intro N27
          induction N27 with
          | zero => intro i h1 H locs ls hN; exact absurd hN (Nat.not_lt_zero _)
          | succ N27 ih27 =>
            intro i h1 H locs ls hN27 hi hi2 eh1 fi1 fp1 hR hS hl
            refine lv_iload_n hx hb dX2_removeHeap_27 rfl (lv_at hl 0 rfl) ?_
            refine lv_iconst (v := nI 1) hx hb dX2_removeHeap_28 (by decide) ?_
            refine lv_iadd hx hb dX2_removeHeap_29 ?_
            refine ah_toi (v := nI (i + 1)) (nI_add _ _) ?_
            refine lv_aload_n hx hb dX2_removeHeap_30 rfl (lv_at hl 1 rfl) ?_
            refine ah_get (ci := 1) (v := .int (nI c)) (C := RX2) (T := TX2) (N := 5) hx hb hE hR hts hinX2 hown fi1 rfl 2 (by decide) k58 (fun _ h9 => h9) rfl dX2_removeHeap_31 ?_
            refine lv_icmp_ge (tgt := 57) hx hb dX2_removeHeap_34 (by decide) (fun c_4 => ?_) (fun c_4 => ?_)
            · skip
              have c_4 : c ≤ (i + 1) := (nI_leI (by omega) (by omega)).mp c_4
              refine lv_aload_n hx hb dX2_removeHeap_57 rfl (lv_at hl 1 rfl) ?_
              refine lv_dup hx hb dX2_removeHeap_58 rfl ?_
              refine ah_get (ci := 1) (v := .int (nI c)) (C := RX2) (T := TX2) (N := 5) hx hb hE hR hts hinX2 hown fi1 rfl 2 (by decide) k58 (fun _ h9 => h9) rfl dX2_removeHeap_59 ?_
              refine lv_iconst (v := nI 1) hx hb dX2_removeHeap_62 (by decide) ?_
              refine lv_isub hx hb dX2_removeHeap_63 ?_
              refine ah_toi (v := nI (c - 1)) (pk_sub (by omega)) ?_
              refine ah_put (ci := 1) (v := .int (nI (c - 1))) (ty := .int) (C := RX2) (T := TX2) (N := 5) hx hb hE hR hS hts hinX2 tyX2 tyX2_ok nmX2 hown fi1 rfl 2 (by decide) k58 (fun _ h9 => h9) rfl (by decide +kernel) rfl rfl (Nat.le_of_ble_eq_true rfl) dX2_removeHeap_64 (fun H locs hR hS => ?_)
              obtain ⟨h_5, e_6⟩ : ∃ zz9, zz9 = ah_up h1 ib (8, .inr (1, [.ref rd, .ref hp, .int (nI (c - 1)), .int (nI pt), va_rf lo])) := ⟨_, rfl⟩
              have hR : ah_R G h_5 H := by rw [e_6]; exact hR
              have f_7 : h_5 ib = some (8, .inr (1, [.ref rd, .ref hp, .int (nI (c - 1)), .int (nI pt), va_rf lo])) := by rw [e_6]; exact ah_up_s _ _ _
              have f_8 : h_5 hp = some (9, .inl (G.2.2.1 1, 16, .inr (.inr (.inr (.inr (rmF hf k i)))))) := by rw [e_6]; exact ah_keep fp1 fi1 (by omega)
              refine lv_aload_n hx hb dX2_removeHeap_67 rfl (lv_at hl 1 rfl) ?_
              refine ah_get (ci := 1) (v := .ref hp) (C := RX2) (T := TX2) (N := 5) hx hb hE hR hts hinX2 hown f_7 rfl 1 (by decide) k20 (fun _ h9 => h9) rfl dX2_removeHeap_68 ?_
              refine lv_aload_n hx hb dX2_removeHeap_71 rfl (lv_at hl 1 rfl) ?_
              refine ah_get (ci := 1) (v := .int (nI (c - 1))) (C := RX2) (T := TX2) (N := 5) hx hb hE hR hts hinX2 hown f_7 rfl 2 (by decide) k58 (fun _ h9 => h9) rfl dX2_removeHeap_72 ?_
              refine lv_null hx hb dX2_removeHeap_75 ?_
              refine ah_aastN (i := (c - 1)) hx hb hE hR hS f_8 rfl (by omega) (by omega) dX2_removeHeap_76 (fun H locs hR hS => ?_)
              obtain ⟨h_9, e_10⟩ : ∃ zz9, zz9 = ah_up h_5 hp (9, .inl (G.2.2.1 1, 16, .inr (.inr (.inr (.inr (va_up (rmF hf k i) (c - 1) none)))))) := ⟨_, rfl⟩
              have hR : ah_R G h_9 H := by rw [e_10]; exact hR
              have f_11 : h_9 ib = some (8, .inr (1, [.ref rd, .ref hp, .int (nI (c - 1)), .int (nI pt), va_rf lo])) := by rw [e_10]; exact ah_keep f_7 f_8 (by omega)
              have f_12 : h_9 hp = some (9, .inl (G.2.2.1 1, 16, .inr (.inr (.inr (.inr (va_up (rmF hf k i) (c - 1) none)))))) := by rw [e_10]; exact ah_up_s _ _ _
              refine ah_vret hx hb hr hlocks hR hS dX2_removeHeap_77 ?_
              rw [e_10, e_6, eh1]
              rw [show i = c - 1 by omega]
              exact ah_up3 (ah_ne fp fi (by omega))
            · skip
              have c_4 : ¬ (c ≤ (i + 1)) := fun z9 => c_4 ((nI_leI (by omega) (by omega)).mpr z9)
              refine lv_aload_n hx hb dX2_removeHeap_37 rfl (lv_at hl 1 rfl) ?_
              refine ah_get (ci := 1) (v := .ref hp) (C := RX2) (T := TX2) (N := 5) hx hb hE hR hts hinX2 hown fi1 rfl 1 (by decide) k20 (fun _ h9 => h9) rfl dX2_removeHeap_38 ?_
              refine lv_iload_n hx hb dX2_removeHeap_41 rfl (lv_at hl 0 rfl) ?_
              refine lv_aload_n hx hb dX2_removeHeap_42 rfl (lv_at hl 1 rfl) ?_
              refine ah_get (ci := 1) (v := .ref hp) (C := RX2) (T := TX2) (N := 5) hx hb hE hR hts hinX2 hown fi1 rfl 1 (by decide) k20 (fun _ h9 => h9) rfl dX2_removeHeap_43 ?_
              obtain ⟨a9, vs9, ea9, fa9⟩ := hob (i + 1) (by omega)
              have fa8 : h1 a9 = some (800, .inr (0, vs9)) := by rw [eh1]; exact ah_keep fa9 fp (by omega)
              refine lv_iload_n hx hb dX2_removeHeap_46 rfl (lv_at hl 0 rfl) ?_
              refine lv_iconst (v := nI 1) hx hb dX2_removeHeap_47 (by decide) ?_
              refine lv_iadd hx hb dX2_removeHeap_48 ?_
              refine ah_toi (v := nI (i + 1)) (nI_add _ _) ?_
              refine ah_aald (i := (i + 1)) hx hb hE hR fp1 rfl (by omega) (by omega) dX2_removeHeap_49 ?_
              rw [show (rmF hf k i) (i + 1) = some a9 from (by unfold rmF; rw [if_neg (show ¬ i + 1 < k by omega), if_neg (show ¬ i + 1 < i by omega)]; exact ea9)]
              refine ah_aast (i := i) hx hb hE hR hS fp1 rfl fa8 rfl (by omega) (by omega) dX2_removeHeap_50 (fun H locs hR hS => ?_)
              obtain ⟨h_13, e_14⟩ : ∃ zz9, zz9 = ah_up h1 hp (9, .inl (G.2.2.1 1, 16, .inr (.inr (.inr (.inr (va_up (rmF hf k i) i (some a9))))))) := ⟨_, rfl⟩
              have hR : ah_R G h_13 H := by rw [e_14]; exact hR
              have f_15 : h_13 ib = some (8, .inr (1, [.ref rd, .ref hp, .int (nI c), .int (nI pt), va_rf lo])) := by rw [e_14]; exact ah_keep fi1 fp1 (by omega)
              have f_16 : h_13 hp = some (9, .inl (G.2.2.1 1, 16, .inr (.inr (.inr (.inr (va_up (rmF hf k i) i (some a9))))))) := by rw [e_14]; exact ah_up_s _ _ _
              have f_17 : h_13 a9 = some (800, .inr (0, vs9)) := by rw [e_14]; exact ah_keep fa8 fp1 (by omega)
              have f_18 : h_13 hp = some (9, .inl (G.2.2.1 1, 16, .inr (.inr (.inr (.inr (rmF hf k (i + 1))))))) := by rw [← rmF_s hi, ea9]; exact f_16
              refine lv_iinc (v := nI (i + 1)) (lv' := [(2, .int (nI (i + 1))), (0, .ref ib), (1, .int (nI k))]) hx hb dX2_removeHeap_51 hl (k := 0) rfl (show nI i + Int32.ofInt 1 = nI (i + 1) from nI_add _ 1) (by decide) rfl (fun ls hl => ?_)
              refine lv_goto (tgt := 27) hx hb dX2_removeHeap_54 (by decide) ?_
              exact ih27  (i + 1) h_13 _ _ ls (by omega) (by omega) (by omega) (by rw [e_14, eh1, ah_up2, ← rmF_s hi, ea9]) f_15 f_18 hR hS (lv_sub hl [0, 1, 2] rfl)
        exact L27 ((c - k) + 1) k h _ _ ls (by omega) (by omega) (by omega) (by rw [rmF_0, ah_up_id fp]) fi fp0 hR hS (lv_sub hl [0, 1, 2] rfl)
      · skip
        have c_3 : ¬ (c ≤ 16) := fun z9 => c_3 ((nI_leI (by omega) (by omega)).mpr z9)
        exact absurd c_3 (by omega)

set_option maxHeartbeats 4000000 in
set_option maxRecDepth 100000 in
theorem c_Ib_longest (l : Launch) (G : ah_G) (h : ah_H) (ib hp rd c pt : Nat) (lo : Option Nat) (hf : Nat → Option Nat) (fi : h ib = some (8, .inr (1, [.ref rd, .ref hp, .int (nI c), .int (nI pt), va_rf lo]))) (fp : h hp = some (9, .inl (G.2.2.1 1, 16, .inr (.inr (.inr (.inr hf)))))) (hc : c ≤ 16) (D : Nat → hDt) (hok : ibOk G h c D hf) (hc0 : 0 < c) : Met l yX2_longestUntouched wsX2_longestUntouched ({ frames := 0, cells := 0, slots := 0, locals := 0 }) (ah_Pc G [.ref ib] h) (ah_Qi G (fun v h' => v = nI (luR (fun i => d_l (D i)) (c - 1) 1 0) ∧ h' = h)) 0 0 (ah_A G) := by
  refine ah_ofW (cc := cX2_longestUntouched) (maxL := 3) (ret := (some .int)) (by decide) rfl (Nat.le_of_ble_eq_true rfl) ?_
  intro p e s m below meth cd9 ls hx hb hr hml hown hlocks hname hts hE hR hS hl
  have hown : s.vm.findClass RX2 = some m.cls := hown
  have hl : lv_has ls 3 [(0, .ref ib)] := hl
  have k58 := hts (.fieldLink RX2 58 "TextParts$Inbox" "heapCount" "I") (by decide +kernel)
  have hinX2 : ∀ w ∈ wsX20, w ∈ wsX2_longestUntouched := by decide +kernel
  have k20 := hts (.fieldLink RX2 20 "TextParts$Inbox" "heaps" "[LTextParts$Heap;") (by decide +kernel)
  have k84 := hts (.fieldLink RX2 84 "TextParts$Heap" "lastPut" "I") (by decide +kernel)
  have hinX1 : ∀ w ∈ wsX10, w ∈ wsX2_longestUntouched := by decide +kernel
  refine lv_iconst (v := nI 0) hx hb dX2_longestUntouched_0 (by decide) ?_
  refine lv_istore_n (lv' := [(1, .int (nI 0)), (0, .ref ib)]) hx hb dX2_longestUntouched_1 rfl hl (by decide) rfl (fun ls hl => ?_)
  refine lv_iconst (v := nI 1) hx hb dX2_longestUntouched_2 (by decide) ?_
  refine lv_istore_n (lv' := [(2, .int (nI 1)), (1, .int (nI 0)), (0, .ref ib)]) hx hb dX2_longestUntouched_3 rfl hl (by decide) rfl (fun ls hl => ?_)
  have L4 : ∀ (N4 : Nat) (i : Nat) (o : Nat) (H : Heap) (locs : List Loc) (ls : Array Slot), c - i < N4 → (1 ≤ i) → (i ≤ c) → (o < c) → (luR (fun i => d_l (D i)) (c - i) i o = luR (fun i => d_l (D i)) (c - 1) 1 0) → (h ib = some (8, .inr (1, [.ref rd, .ref hp, .int (nI c), .int (nI pt), va_rf lo]))) → (h hp = some (9, .inl (G.2.2.1 1, 16, .inr (.inr (.inr (.inr hf)))))) → ah_R G h H → va_S (ah_A G) s.heap H locs → lv_has ls 3 [(2, .int (nI i)), (1, .int (nI o)), (0, .ref ib)] → W p l e ({ frames := 0, cells := 0, slots := 0, locals := 0 }) s m ([.ref ib] : List Value).toArray below meth cd9 H locs 0 0 (MQ below (ah_Qi G (fun v h' => v = nI (luR (fun i => d_l (D i)) (c - 1) 1 0) ∧ h' = h)) ([.ref ib] : List Value).toArray s 0 0 (ah_A G)) (F0 m 4 ls []) := by
    intro N4
    induction N4 with
    | zero => intro i o  H locs ls hN; exact absurd hN (Nat.not_lt_zero _)
    | succ N4 ih4 =>
      intro i o  H locs ls hN4 hi hi2 ho eo fi fp hR hS hl
      refine lv_iload_n hx hb dX2_longestUntouched_4 rfl (lv_at hl 0 rfl) ?_
      refine lv_aload_n hx hb dX2_longestUntouched_5 rfl (lv_at hl 2 rfl) ?_
      refine ah_get (ci := 1) (v := .int (nI c)) (C := RX2) (T := TX2) (N := 5) hx hb hE hR hts hinX2 hown fi rfl 2 (by decide) k58 (fun _ h9 => h9) rfl dX2_longestUntouched_6 ?_
      refine lv_icmp_ge (tgt := 68) hx hb dX2_longestUntouched_9 (by decide) (fun c_1 => ?_) (fun c_1 => ?_)
      · skip
        have c_1 : c ≤ i := (nI_leI (by omega) (by omega)).mp c_1
        refine lv_iload_n hx hb dX2_longestUntouched_68 rfl (lv_at hl 1 rfl) ?_
        refine ah_iret (v := nI o) hx hb hr hlocks hR hS dX2_longestUntouched_69 ?_
        exact ⟨by rw [← eo, show c - i = 0 by omega]; rfl, rfl⟩
      · skip
        have c_1 : ¬ (c ≤ i) := fun z9 => c_1 ((nI_leI (by omega) (by omega)).mpr z9)
        refine lv_iload_n hx hb dX2_longestUntouched_12 rfl (lv_at hl 0 rfl) ?_
        refine lv_aload_n hx hb dX2_longestUntouched_13 rfl (lv_at hl 2 rfl) ?_
        refine ah_get (ci := 1) (v := .ref hp) (C := RX2) (T := TX2) (N := 5) hx hb hE hR hts hinX2 hown fi rfl 1 (by decide) k20 (fun _ h9 => h9) rfl dX2_longestUntouched_14 ?_
        refine ah_alen hx hb hE hR fp (show (ah_tys G)[1]? = some _ from rfl) dX2_longestUntouched_17 ?_
        refine lv_icmp_ge (tgt := 68) hx hb dX2_longestUntouched_18 (by decide) (fun c_2 => ?_) (fun c_2 => ?_)
        · skip
          have c_2 : 16 ≤ i := (nI_leI (by omega) (by omega)).mp c_2
          exact absurd c_2 (by omega)
        · skip
          have c_2 : ¬ (16 ≤ i) := fun z9 => c_2 ((nI_leI (by omega) (by omega)).mpr z9)
          obtain ⟨k_3a, k_3b, k_3c, k_3d⟩ := (hok.1 i (by omega)).2
          obtain ⟨k_4a, k_4b, k_4c, k_4d⟩ := (hok.1 o (by omega)).2
          refine lv_aload_n hx hb dX2_longestUntouched_21 rfl (lv_at hl 2 rfl) ?_
          refine ah_get (ci := 1) (v := .ref hp) (C := RX2) (T := TX2) (N := 5) hx hb hE hR hts hinX2 hown fi rfl 1 (by decide) k20 (fun _ h9 => h9) rfl dX2_longestUntouched_22 ?_
          refine lv_iload_n hx hb dX2_longestUntouched_25 rfl (lv_at hl 0 rfl) ?_
          refine ah_aald (i := i) hx hb hE hR fp rfl (by omega) (by omega) dX2_longestUntouched_26 ?_
          rw [show hf i = some (d_a (D i)) from (hok.1 i (by omega)).1]
          refine lv_ifnull hx hb dX2_longestUntouched_27 ?_
          refine lv_aload_n hx hb dX2_longestUntouched_30 rfl (lv_at hl 2 rfl) ?_
          refine ah_get (ci := 1) (v := .ref hp) (C := RX2) (T := TX2) (N := 5) hx hb hE hR hts hinX2 hown fi rfl 1 (by decide) k20 (fun _ h9 => h9) rfl dX2_longestUntouched_31 ?_
          refine lv_iload_n hx hb dX2_longestUntouched_34 rfl (lv_at hl 1 rfl) ?_
          refine ah_aald (i := o) hx hb hE hR fp rfl (by omega) (by omega) dX2_longestUntouched_35 ?_
          rw [show hf o = some (d_a (D o)) from (hok.1 o (by omega)).1]
          refine lv_ifnull hx hb dX2_longestUntouched_36 ?_
          refine lv_aload_n hx hb dX2_longestUntouched_39 rfl (lv_at hl 2 rfl) ?_
          refine ah_get (ci := 1) (v := .ref hp) (C := RX2) (T := TX2) (N := 5) hx hb hE hR hts hinX2 hown fi rfl 1 (by decide) k20 (fun _ h9 => h9) rfl dX2_longestUntouched_40 ?_
          refine lv_iload_n hx hb dX2_longestUntouched_43 rfl (lv_at hl 0 rfl) ?_
          refine ah_aald (i := i) hx hb hE hR fp rfl (by omega) (by omega) dX2_longestUntouched_44 ?_
          rw [show hf i = some (d_a (D i)) from (hok.1 i (by omega)).1]
          refine ah_get (ci := 0) (v := .int (nI (d_l (D i)))) (C := RX1) (T := TX1) (N := 6) hx hb hE hR hts hinX1 hown k_3a rfl 5 (by decide) k84 (fun _ h9 => h9) rfl dX2_longestUntouched_45 ?_
          refine lv_aload_n hx hb dX2_longestUntouched_48 rfl (lv_at hl 2 rfl) ?_
          refine ah_get (ci := 1) (v := .ref hp) (C := RX2) (T := TX2) (N := 5) hx hb hE hR hts hinX2 hown fi rfl 1 (by decide) k20 (fun _ h9 => h9) rfl dX2_longestUntouched_49 ?_
          refine lv_iload_n hx hb dX2_longestUntouched_52 rfl (lv_at hl 1 rfl) ?_
          refine ah_aald (i := o) hx hb hE hR fp rfl (by omega) (by omega) dX2_longestUntouched_53 ?_
          rw [show hf o = some (d_a (D o)) from (hok.1 o (by omega)).1]
          refine ah_get (ci := 0) (v := .int (nI (d_l (D o)))) (C := RX1) (T := TX1) (N := 6) hx hb hE hR hts hinX1 hown k_4a rfl 5 (by decide) k84 (fun _ h9 => h9) rfl dX2_longestUntouched_54 ?_
          refine lv_icmp_ge (tgt := 62) hx hb dX2_longestUntouched_57 (by decide) (fun c_5 => ?_) (fun c_5 => ?_)
          · skip
            have c_5 : (d_l (D o)) ≤ (d_l (D i)) := (nI_leI (by omega) (by omega)).mp c_5
            refine lv_iinc (v := nI (i + 1)) (lv' := [(2, .int (nI (i + 1))), (1, .int (nI o)), (0, .ref ib)]) hx hb dX2_longestUntouched_62 hl (k := 0) rfl (show nI i + Int32.ofInt 1 = nI (i + 1) from nI_add _ 1) (by decide) rfl (fun ls hl => ?_)
            refine lv_goto (tgt := 4) hx hb dX2_longestUntouched_65 (by decide) ?_
            exact ih4  (i + 1) o _ _ ls (by omega) (by omega) (by omega) (by omega) (by rw [← eo, show c - i = c - (i + 1) + 1 by omega]; show _ = luR _ _ (i + 1) (if d_l (D i) < d_l (D o) then i else o); rw [if_neg (show ¬ d_l (D i) < d_l (D o) by omega)]) fi fp hR hS (lv_sub hl [0, 1, 2] rfl)
          · skip
            have c_5 : ¬ ((d_l (D o)) ≤ (d_l (D i))) := fun z9 => c_5 ((nI_leI (by omega) (by omega)).mpr z9)
            refine lv_iload_n hx hb dX2_longestUntouched_60 rfl (lv_at hl 0 rfl) ?_
            refine lv_istore_n (lv' := [(1, .int (nI i)), (2, .int (nI i)), (0, .ref ib)]) hx hb dX2_longestUntouched_61 rfl hl (by decide) rfl (fun ls hl => ?_)
            refine lv_iinc (v := nI (i + 1)) (lv' := [(2, .int (nI (i + 1))), (1, .int (nI i)), (0, .ref ib)]) hx hb dX2_longestUntouched_62 hl (k := 1) rfl (show nI i + Int32.ofInt 1 = nI (i + 1) from nI_add _ 1) (by decide) rfl (fun ls hl => ?_)
            refine lv_goto (tgt := 4) hx hb dX2_longestUntouched_65 (by decide) ?_
            exact ih4  (i + 1) i _ _ ls (by omega) (by omega) (by omega) (by omega) (by rw [← eo, show c - i = c - (i + 1) + 1 by omega]; show _ = luR _ _ (i + 1) (if d_l (D i) < d_l (D o) then i else o); rw [if_pos (show d_l (D i) < d_l (D o) by omega)]) fi fp hR hS (lv_sub hl [0, 1, 2] rfl)
  exact L4 ((c - 1) + 1) 1 0 _ _ ls (by omega) (by omega) (by omega) (by omega) rfl fi fp hR hS (lv_sub hl [0, 1, 2] rfl)

set_option maxHeartbeats 4000000 in
set_option maxRecDepth 100000 in
theorem c_Ib_placeOf (l : Launch) (G : ah_G) (h : ah_H) (ib hp rd c pt : Nat) (lo : Option Nat) (hf : Nat → Option Nat) (fi : h ib = some (8, .inr (1, [.ref rd, .ref hp, .int (nI c), .int (nI pt), va_rf lo]))) (fp : h hp = some (9, .inl (G.2.2.1 1, 16, .inr (.inr (.inr (.inr hf)))))) (hc : c ≤ 16) (D : Nat → hDt) (hok : ibOk G h c D hf) (hd rfr ps nm bp el ru : Nat) (fd : h rd = some (10, .inr (3, [.int (nI hd), .int (nI rfr), .int (nI ps), .int (nI nm), .int (nI bp), .int (nI el), .ref ru]))) (hrf : rfr < 256) (hps : ps < 256) (s9 : Nat) (hs9 : s9 ≤ 999) : Met l yX2_placeOf wsX2_placeOf ({ frames := 1, cells := 0, slots := 0, locals := 23 }) (ah_Pc G [.ref ib, .int (nI s9)] h) (ah_Qi G (fun v h' => h' = h ∧ ((∃ i, i < c ∧ isH D s9 rfr ps i ∧ (∀ j, j < i → ¬ isH D s9 rfr ps j) ∧ v = nI i) ∨ ((∀ j, j < c → ¬ isH D s9 rfr ps j) ∧ v = -1)))) 0 0 (ah_A G) := by
  refine ah_ofW (cc := cX2_placeOf) (maxL := 3) (ret := (some .int)) (by decide) rfl (Nat.le_of_ble_eq_true rfl) ?_
  intro p e s m below meth cd9 ls hx hb hr hml hown hlocks hname hts hE hR hS hl
  have hown : s.vm.findClass RX2 = some m.cls := hown
  have hl : lv_has ls 3 [(0, .ref ib), (1, .int (nI s9))] := hl
  have k58 := hts (.fieldLink RX2 58 "TextParts$Inbox" "heapCount" "I") (by decide +kernel)
  have hinX2 : ∀ w ∈ wsX20, w ∈ wsX2_placeOf := by decide +kernel
  have k20 := hts (.fieldLink RX2 20 "TextParts$Inbox" "heaps" "[LTextParts$Heap;") (by decide +kernel)
  have k12 := hts (.fieldLink RX2 12 "TextParts$Inbox" "reader" "LTextParts$PartReader;") (by decide +kernel)
  have k91 := hts (.fieldLink RX2 91 "TextParts$PartReader" "reference" "I") (by decide +kernel)
  have hinX4 : ∀ w ∈ wsX40, w ∈ wsX2_placeOf := by decide +kernel
  have k94 := hts (.fieldLink RX2 94 "TextParts$PartReader" "parts" "I") (by decide +kernel)
  refine lv_iconst (v := nI 0) hx hb dX2_placeOf_0 (by decide) ?_
  refine lv_istore_n (lv' := [(2, .int (nI 0)), (0, .ref ib), (1, .int (nI s9))]) hx hb dX2_placeOf_1 rfl hl (by decide) rfl (fun ls hl => ?_)
  have L2 : ∀ (N2 : Nat) (i : Nat) (H : Heap) (locs : List Loc) (ls : Array Slot), c - i < N2 → (i ≤ c) → (∀ j, j < i → ¬ isH D s9 rfr ps j) → (h ib = some (8, .inr (1, [.ref rd, .ref hp, .int (nI c), .int (nI pt), va_rf lo]))) → (h hp = some (9, .inl (G.2.2.1 1, 16, .inr (.inr (.inr (.inr hf)))))) → (h rd = some (10, .inr (3, [.int (nI hd), .int (nI rfr), .int (nI ps), .int (nI nm), .int (nI bp), .int (nI el), .ref ru]))) → ah_R G h H → va_S (ah_A G) s.heap H locs → lv_has ls 3 [(2, .int (nI i)), (0, .ref ib), (1, .int (nI s9))] → W p l e ({ frames := 1, cells := 0, slots := 0, locals := 23 }) s m ([.ref ib, .int (nI s9)] : List Value).toArray below meth cd9 H locs 0 0 (MQ below (ah_Qi G (fun v h' => h' = h ∧ ((∃ i, i < c ∧ isH D s9 rfr ps i ∧ (∀ j, j < i → ¬ isH D s9 rfr ps j) ∧ v = nI i) ∨ ((∀ j, j < c → ¬ isH D s9 rfr ps j) ∧ v = -1)))) ([.ref ib, .int (nI s9)] : List Value).toArray s 0 0 (ah_A G)) (F0 m 2 ls []) := by
    intro N2
    induction N2 with
    | zero => intro i  H locs ls hN; exact absurd hN (Nat.not_lt_zero _)
    | succ N2 ih2 =>
      intro i  H locs ls hN2 hi2 hno fi fp fd hR hS hl
      refine lv_iload_n hx hb dX2_placeOf_2 rfl (lv_at hl 0 rfl) ?_
      refine lv_aload_n hx hb dX2_placeOf_3 rfl (lv_at hl 1 rfl) ?_
      refine ah_get (ci := 1) (v := .int (nI c)) (C := RX2) (T := TX2) (N := 5) hx hb hE hR hts hinX2 hown fi rfl 2 (by decide) k58 (fun _ h9 => h9) rfl dX2_placeOf_4 ?_
      refine lv_icmp_ge (tgt := 63) hx hb dX2_placeOf_7 (by decide) (fun c_1 => ?_) (fun c_1 => ?_)
      · skip
        have c_1 : c ≤ i := (nI_leI (by omega) (by omega)).mp c_1
        refine lv_iconst (v := (-1)) hx hb dX2_placeOf_63 (by decide) ?_
        refine ah_iret (v := (-1)) hx hb hr hlocks hR hS dX2_placeOf_64 ?_
        exact ⟨rfl, Or.inr ⟨fun j hj => hno j (by omega), rfl⟩⟩
      · skip
        have c_1 : ¬ (c ≤ i) := fun z9 => c_1 ((nI_leI (by omega) (by omega)).mpr z9)
        refine lv_iload_n hx hb dX2_placeOf_10 rfl (lv_at hl 0 rfl) ?_
        refine lv_aload_n hx hb dX2_placeOf_11 rfl (lv_at hl 1 rfl) ?_
        refine ah_get (ci := 1) (v := .ref hp) (C := RX2) (T := TX2) (N := 5) hx hb hE hR hts hinX2 hown fi rfl 1 (by decide) k20 (fun _ h9 => h9) rfl dX2_placeOf_12 ?_
        refine ah_alen hx hb hE hR fp (show (ah_tys G)[1]? = some _ from rfl) dX2_placeOf_15 ?_
        refine lv_icmp_ge (tgt := 63) hx hb dX2_placeOf_16 (by decide) (fun c_2 => ?_) (fun c_2 => ?_)
        · skip
          have c_2 : 16 ≤ i := (nI_leI (by omega) (by omega)).mp c_2
          exact absurd c_2 (by omega)
        · skip
          have c_2 : ¬ (16 ≤ i) := fun z9 => c_2 ((nI_leI (by omega) (by omega)).mpr z9)
          obtain ⟨k_3a, k_3b, k_3c, k_3d⟩ := (hok.1 i (by omega)).2
          refine lv_aload_n hx hb dX2_placeOf_19 rfl (lv_at hl 1 rfl) ?_
          refine ah_get (ci := 1) (v := .ref hp) (C := RX2) (T := TX2) (N := 5) hx hb hE hR hts hinX2 hown fi rfl 1 (by decide) k20 (fun _ h9 => h9) rfl dX2_placeOf_20 ?_
          refine lv_iload_n hx hb dX2_placeOf_23 rfl (lv_at hl 0 rfl) ?_
          refine ah_aald (i := i) hx hb hE hR fp rfl (by omega) (by omega) dX2_placeOf_24 ?_
          rw [show hf i = some (d_a (D i)) from (hok.1 i (by omega)).1]
          refine lv_ifnull hx hb dX2_placeOf_25 ?_
          refine lv_aload_n hx hb dX2_placeOf_28 rfl (lv_at hl 1 rfl) ?_
          refine ah_get (ci := 1) (v := .ref hp) (C := RX2) (T := TX2) (N := 5) hx hb hE hR hts hinX2 hown fi rfl 1 (by decide) k20 (fun _ h9 => h9) rfl dX2_placeOf_29 ?_
          refine lv_iload_n hx hb dX2_placeOf_32 rfl (lv_at hl 0 rfl) ?_
          refine ah_aald (i := i) hx hb hE hR fp rfl (by omega) (by omega) dX2_placeOf_33 ?_
          rw [show hf i = some (d_a (D i)) from (hok.1 i (by omega)).1]
          refine lv_iload_n hx hb dX2_placeOf_34 rfl (lv_at hl 2 rfl) ?_
          refine lv_aload_n hx hb dX2_placeOf_35 rfl (lv_at hl 1 rfl) ?_
          refine ah_get (ci := 1) (v := .ref rd) (C := RX2) (T := TX2) (N := 5) hx hb hE hR hts hinX2 hown fi rfl 0 (by decide) k12 (fun _ h9 => h9) rfl dX2_placeOf_36 ?_
          refine ah_get (ci := 3) (v := .int (nI rfr)) (C := RX4) (T := TX4) (N := 7) hx hb hE hR hts hinX4 hown fd rfl 1 (by decide) k91 (fun _ h9 => h9) rfl dX2_placeOf_39 ?_
          refine lv_aload_n hx hb dX2_placeOf_42 rfl (lv_at hl 1 rfl) ?_
          refine ah_get (ci := 1) (v := .ref rd) (C := RX2) (T := TX2) (N := 5) hx hb hE hR hts hinX2 hown fi rfl 0 (by decide) k12 (fun _ h9 => h9) rfl dX2_placeOf_43 ?_
          refine ah_get (ci := 3) (v := .int (nI ps)) (C := RX4) (T := TX4) (N := 7) hx hb hE hR hts hinX4 hown fd rfl 2 (by decide) k94 (fun _ h9 => h9) rfl dX2_placeOf_46 ?_
          refine ah_calli (va_runV (As := [.int (nI s9), .int (nI rfr), .int (nI ps)]) (rest := []) ⟨hx, hb, hml, hown, hts⟩ (c_Heap_isOf l G h (d_a (D i)) (d_p (D i)) (d_n (D i)) (d_t (D i)) (d_u (D i)) (d_l (D i)) (nI (d_s (D i))) (nI (d_r (D i))) (d_f (D i)) k_3a k_3b (by omega) (by omega) (by omega) (nI s9) (nI rfr) ps (by omega)) (cwV 3 hts gX2_placeOf_X1_isOf rfl rfl rfl (by decide +kernel) ⟨Nat.le_of_ble_eq_true rfl, Nat.le_of_ble_eq_true rfl⟩) (ah_preV hE hR hS k_3a rfl) rfl rfl hl.1 rfl (lv_room (Nat.le_of_ble_eq_true rfl)) dX2_placeOf_49 ⟨Nat.le_of_ble_eq_true rfl, Nat.le_of_ble_eq_true rfl⟩) hS (fun r_6 h_4 H locs p_5 hR hS => ?_)
          obtain ⟨e_7, e_8⟩ := p_5
          rw [e_8] at hR
          refine ah_toi e_7 ?_
          have h01 : (if nI (d_s (D i)) = nI s9 ∧ nI (d_r (D i)) = nI rfr ∧ d_n (D i) = ps then 1 else 0) < 2 ^ 31 := if10
          have hcn : (nI (d_s (D i)) = nI s9 ∧ nI (d_r (D i)) = nI rfr ∧ d_n (D i) = ps) ↔ isH D s9 rfr ps i := by rw [nI_eq (by omega) (by omega), nI_eq (by omega) (by omega)]
          refine lv_if_eq (tgt := 57) hx hb dX2_placeOf_52 (by decide) (fun c_9 => ?_) (fun c_9 => ?_)
          · skip
            have c_9 : (if nI (d_s (D i)) = nI s9 ∧ nI (d_r (D i)) = nI rfr ∧ d_n (D i) = ps then 1 else 0) = 0 := (zi_eq (by omega)).mp c_9
            have hni : ¬ isH D s9 rfr ps i := fun q => if10f c_9 (hcn.mpr q)
            refine lv_iinc (v := nI (i + 1)) (lv' := [(2, .int (nI (i + 1))), (0, .ref ib), (1, .int (nI s9))]) hx hb dX2_placeOf_57 hl (k := 0) rfl (show nI i + Int32.ofInt 1 = nI (i + 1) from nI_add _ 1) (by decide) rfl (fun ls hl => ?_)
            refine lv_goto (tgt := 2) hx hb dX2_placeOf_60 (by decide) ?_
            exact ih2  (i + 1) _ _ ls (by omega) (by omega) (isH_step hno hni) fi fp fd hR hS (lv_sub hl [0, 1, 2] rfl)
          · skip
            have c_9 : ¬ ((if nI (d_s (D i)) = nI s9 ∧ nI (d_r (D i)) = nI rfr ∧ d_n (D i) = ps then 1 else 0) = 0) := fun z9 => c_9 ((zi_eq (by omega)).mpr z9)
            have hyi : isH D s9 rfr ps i := hcn.mp (if10t c_9)
            refine lv_iload_n hx hb dX2_placeOf_55 rfl (lv_at hl 0 rfl) ?_
            refine ah_iret (v := nI i) hx hb hr hlocks hR hS dX2_placeOf_56 ?_
            exact ⟨rfl, Or.inl ⟨i, by omega, hyi, hno, rfl⟩⟩
  exact L2 ((c - 0) + 1) 0 _ _ ls (by omega) (by omega) (fun j hj => absurd hj (Nat.not_lt_zero j)) fi fp fd hR hS (lv_sub hl [0, 1, 2] rfl)

set_option maxHeartbeats 4000000 in
set_option maxRecDepth 100000 in
theorem c_Ib_about0 (l : Launch) (G : ah_G) (h : ah_H) (ib hp rd c pt : Nat) (lo : Option Nat) (hf : Nat → Option Nat) (fi : h ib = some (8, .inr (1, [.ref rd, .ref hp, .int (nI c), .int (nI pt), va_rf lo]))) (fp : h hp = some (9, .inl (G.2.2.1 1, 16, .inr (.inr (.inr (.inr hf)))))) (hc : c ≤ 16) (D : Nat → hDt) (hok : ibOk G h c D hf) (x : Int32) : Met l yX2_aboutHeap wsX2_aboutHeap ({ frames := 1, cells := 0, slots := 0, locals := 21 }) (ah_Pc G [.ref ib, .int x, .int (nI 0)] h) (ah_Qi G (fun v h' => v = (if x < 0 then -1 else if nI c ≤ x then -1 else nI (d_s (D x.toNatClampNeg))) ∧ h' = h)) 0 0 (ah_A G) := by
  refine ah_ofW (cc := cX2_aboutHeap) (maxL := 3) (ret := (some .int)) (by decide) rfl (Nat.le_of_ble_eq_true rfl) ?_
  intro p e s m below meth cd9 ls hx hb hr hml hown hlocks hname hts hE hR hS hl
  have hown : s.vm.findClass RX2 = some m.cls := hown
  have hl : lv_has ls 3 [(0, .ref ib), (1, .int x), (2, .int (nI 0))] := hl
  have k58 := hts (.fieldLink RX2 58 "TextParts$Inbox" "heapCount" "I") (by decide +kernel)
  have hinX2 : ∀ w ∈ wsX20, w ∈ wsX2_aboutHeap := by decide +kernel
  have k20 := hts (.fieldLink RX2 20 "TextParts$Inbox" "heaps" "[LTextParts$Heap;") (by decide +kernel)
  refine lv_iload_n hx hb dX2_aboutHeap_0 rfl (lv_at hl 1 rfl) ?_
  refine lv_if_lt (tgt := 30) hx hb dX2_aboutHeap_1 (by decide) (fun c_1 => ?_) (fun c_1 => ?_)
  · skip
    refine lv_iconst (v := (-1)) hx hb dX2_aboutHeap_30 (by decide) ?_
    refine ah_iret (v := (-1)) hx hb hr hlocks hR hS dX2_aboutHeap_31 ?_
    exact ⟨(if_pos c_1).symm, rfl⟩
  · skip
    refine lv_iload_n hx hb dX2_aboutHeap_4 rfl (lv_at hl 1 rfl) ?_
    refine lv_aload_n hx hb dX2_aboutHeap_5 rfl (lv_at hl 0 rfl) ?_
    refine ah_get (ci := 1) (v := .int (nI c)) (C := RX2) (T := TX2) (N := 5) hx hb hE hR hts hinX2 hown fi rfl 2 (by decide) k58 (fun _ h9 => h9) rfl dX2_aboutHeap_6 ?_
    refine lv_icmp_ge (tgt := 30) hx hb dX2_aboutHeap_9 (by decide) (fun c_2 => ?_) (fun c_2 => ?_)
    · skip
      refine lv_iconst (v := (-1)) hx hb dX2_aboutHeap_30 (by decide) ?_
      refine ah_iret (v := (-1)) hx hb hr hlocks hR hS dX2_aboutHeap_31 ?_
      exact ⟨by rw [if_neg c_1, if_pos c_2], rfl⟩
    · skip
      obtain ⟨j, hj, rfl⟩ := ix_of c_1 c_2 (show c < 2 ^ 31 by omega)
      obtain ⟨k_3a, k_3b, k_3c, k_3d⟩ := (hok.1 j (by omega)).2
      refine lv_iload_n hx hb dX2_aboutHeap_12 rfl (lv_at hl 1 rfl) ?_
      refine lv_aload_n hx hb dX2_aboutHeap_13 rfl (lv_at hl 0 rfl) ?_
      refine ah_get (ci := 1) (v := .ref hp) (C := RX2) (T := TX2) (N := 5) hx hb hE hR hts hinX2 hown fi rfl 1 (by decide) k20 (fun _ h9 => h9) rfl dX2_aboutHeap_14 ?_
      refine ah_alen hx hb hE hR fp (show (ah_tys G)[1]? = some _ from rfl) dX2_aboutHeap_17 ?_
      refine lv_icmp_ge (tgt := 30) hx hb dX2_aboutHeap_18 (by decide) (fun c_4 => ?_) (fun c_4 => ?_)
      · skip
        have c_4 : 16 ≤ j := (nI_leI (by omega) (by omega)).mp c_4
        exact absurd c_4 (by omega)
      · skip
        have c_4 : ¬ (16 ≤ j) := fun z9 => c_4 ((nI_leI (by omega) (by omega)).mpr z9)
        refine lv_aload_n hx hb dX2_aboutHeap_21 rfl (lv_at hl 0 rfl) ?_
        refine ah_get (ci := 1) (v := .ref hp) (C := RX2) (T := TX2) (N := 5) hx hb hE hR hts hinX2 hown fi rfl 1 (by decide) k20 (fun _ h9 => h9) rfl dX2_aboutHeap_22 ?_
        refine lv_iload_n hx hb dX2_aboutHeap_25 rfl (lv_at hl 1 rfl) ?_
        refine ah_aald (i := j) hx hb hE hR fp rfl (by omega) (by omega) dX2_aboutHeap_26 ?_
        rw [show hf j = some (d_a (D j)) from (hok.1 j (by omega)).1]
        refine lv_ifnonnull (tgt := 32) hx hb dX2_aboutHeap_27 (by decide) ?_
        refine lv_aload_n hx hb dX2_aboutHeap_32 rfl (lv_at hl 0 rfl) ?_
        refine ah_get (ci := 1) (v := .ref hp) (C := RX2) (T := TX2) (N := 5) hx hb hE hR hts hinX2 hown fi rfl 1 (by decide) k20 (fun _ h9 => h9) rfl dX2_aboutHeap_33 ?_
        refine lv_iload_n hx hb dX2_aboutHeap_36 rfl (lv_at hl 1 rfl) ?_
        refine ah_aald (i := j) hx hb hE hR fp rfl (by omega) (by omega) dX2_aboutHeap_37 ?_
        rw [show hf j = some (d_a (D j)) from (hok.1 j (by omega)).1]
        refine lv_iload_n hx hb dX2_aboutHeap_38 rfl (lv_at hl 2 rfl) ?_
        refine ah_calli (va_runV (As := [.int (nI 0)]) (rest := []) ⟨hx, hb, hml, hown, hts⟩ (c_Heap_tell0 l G h (d_a (D j)) (d_p (D j)) (d_n (D j)) (d_t (D j)) (d_u (D j)) (d_l (D j)) (nI (d_s (D j))) (nI (d_r (D j))) (d_f (D j)) k_3a k_3b (by omega) (by omega) (by omega)) (cwV 1 hts gX2_aboutHeap_X1_tell rfl rfl rfl (by decide +kernel) ⟨Nat.le_of_ble_eq_true rfl, Nat.le_of_ble_eq_true rfl⟩) (ah_preV hE hR hS k_3a rfl) rfl rfl hl.1 rfl (lv_room (Nat.le_of_ble_eq_true rfl)) dX2_aboutHeap_39 ⟨Nat.le_of_ble_eq_true rfl, Nat.le_of_ble_eq_true rfl⟩) hS (fun r_7 h_5 H locs p_6 hR hS => ?_)
        obtain ⟨e_8, e_9⟩ := p_6
        rw [e_9] at hR
        refine ah_toi e_8 ?_
        refine ah_iret (v := nI (d_s (D j))) hx hb hr hlocks hR hS dX2_aboutHeap_42 ?_
        exact ⟨by rw [if_neg c_1, if_neg c_2, nI_clamp (by omega)], rfl⟩

set_option maxHeartbeats 4000000 in
set_option maxRecDepth 100000 in
theorem c_Ib_about1 (l : Launch) (G : ah_G) (h : ah_H) (ib hp rd c pt : Nat) (lo : Option Nat) (hf : Nat → Option Nat) (fi : h ib = some (8, .inr (1, [.ref rd, .ref hp, .int (nI c), .int (nI pt), va_rf lo]))) (fp : h hp = some (9, .inl (G.2.2.1 1, 16, .inr (.inr (.inr (.inr hf)))))) (hc : c ≤ 16) (D : Nat → hDt) (hok : ibOk G h c D hf) (x : Int32) : Met l yX2_aboutHeap wsX2_aboutHeap ({ frames := 1, cells := 0, slots := 0, locals := 21 }) (ah_Pc G [.ref ib, .int x, .int (nI 1)] h) (ah_Qi G (fun v h' => v = (if x < 0 then -1 else if nI c ≤ x then -1 else nI (d_r (D x.toNatClampNeg))) ∧ h' = h)) 0 0 (ah_A G) := by
  refine ah_ofW (cc := cX2_aboutHeap) (maxL := 3) (ret := (some .int)) (by decide) rfl (Nat.le_of_ble_eq_true rfl) ?_
  intro p e s m below meth cd9 ls hx hb hr hml hown hlocks hname hts hE hR hS hl
  have hown : s.vm.findClass RX2 = some m.cls := hown
  have hl : lv_has ls 3 [(0, .ref ib), (1, .int x), (2, .int (nI 1))] := hl
  have k58 := hts (.fieldLink RX2 58 "TextParts$Inbox" "heapCount" "I") (by decide +kernel)
  have hinX2 : ∀ w ∈ wsX20, w ∈ wsX2_aboutHeap := by decide +kernel
  have k20 := hts (.fieldLink RX2 20 "TextParts$Inbox" "heaps" "[LTextParts$Heap;") (by decide +kernel)
  refine lv_iload_n hx hb dX2_aboutHeap_0 rfl (lv_at hl 1 rfl) ?_
  refine lv_if_lt (tgt := 30) hx hb dX2_aboutHeap_1 (by decide) (fun c_1 => ?_) (fun c_1 => ?_)
  · skip
    refine lv_iconst (v := (-1)) hx hb dX2_aboutHeap_30 (by decide) ?_
    refine ah_iret (v := (-1)) hx hb hr hlocks hR hS dX2_aboutHeap_31 ?_
    exact ⟨(if_pos c_1).symm, rfl⟩
  · skip
    refine lv_iload_n hx hb dX2_aboutHeap_4 rfl (lv_at hl 1 rfl) ?_
    refine lv_aload_n hx hb dX2_aboutHeap_5 rfl (lv_at hl 0 rfl) ?_
    refine ah_get (ci := 1) (v := .int (nI c)) (C := RX2) (T := TX2) (N := 5) hx hb hE hR hts hinX2 hown fi rfl 2 (by decide) k58 (fun _ h9 => h9) rfl dX2_aboutHeap_6 ?_
    refine lv_icmp_ge (tgt := 30) hx hb dX2_aboutHeap_9 (by decide) (fun c_2 => ?_) (fun c_2 => ?_)
    · skip
      refine lv_iconst (v := (-1)) hx hb dX2_aboutHeap_30 (by decide) ?_
      refine ah_iret (v := (-1)) hx hb hr hlocks hR hS dX2_aboutHeap_31 ?_
      exact ⟨by rw [if_neg c_1, if_pos c_2], rfl⟩
    · skip
      obtain ⟨j, hj, rfl⟩ := ix_of c_1 c_2 (show c < 2 ^ 31 by omega)
      obtain ⟨k_3a, k_3b, k_3c, k_3d⟩ := (hok.1 j (by omega)).2
      refine lv_iload_n hx hb dX2_aboutHeap_12 rfl (lv_at hl 1 rfl) ?_
      refine lv_aload_n hx hb dX2_aboutHeap_13 rfl (lv_at hl 0 rfl) ?_
      refine ah_get (ci := 1) (v := .ref hp) (C := RX2) (T := TX2) (N := 5) hx hb hE hR hts hinX2 hown fi rfl 1 (by decide) k20 (fun _ h9 => h9) rfl dX2_aboutHeap_14 ?_
      refine ah_alen hx hb hE hR fp (show (ah_tys G)[1]? = some _ from rfl) dX2_aboutHeap_17 ?_
      refine lv_icmp_ge (tgt := 30) hx hb dX2_aboutHeap_18 (by decide) (fun c_4 => ?_) (fun c_4 => ?_)
      · skip
        have c_4 : 16 ≤ j := (nI_leI (by omega) (by omega)).mp c_4
        exact absurd c_4 (by omega)
      · skip
        have c_4 : ¬ (16 ≤ j) := fun z9 => c_4 ((nI_leI (by omega) (by omega)).mpr z9)
        refine lv_aload_n hx hb dX2_aboutHeap_21 rfl (lv_at hl 0 rfl) ?_
        refine ah_get (ci := 1) (v := .ref hp) (C := RX2) (T := TX2) (N := 5) hx hb hE hR hts hinX2 hown fi rfl 1 (by decide) k20 (fun _ h9 => h9) rfl dX2_aboutHeap_22 ?_
        refine lv_iload_n hx hb dX2_aboutHeap_25 rfl (lv_at hl 1 rfl) ?_
        refine ah_aald (i := j) hx hb hE hR fp rfl (by omega) (by omega) dX2_aboutHeap_26 ?_
        rw [show hf j = some (d_a (D j)) from (hok.1 j (by omega)).1]
        refine lv_ifnonnull (tgt := 32) hx hb dX2_aboutHeap_27 (by decide) ?_
        refine lv_aload_n hx hb dX2_aboutHeap_32 rfl (lv_at hl 0 rfl) ?_
        refine ah_get (ci := 1) (v := .ref hp) (C := RX2) (T := TX2) (N := 5) hx hb hE hR hts hinX2 hown fi rfl 1 (by decide) k20 (fun _ h9 => h9) rfl dX2_aboutHeap_33 ?_
        refine lv_iload_n hx hb dX2_aboutHeap_36 rfl (lv_at hl 1 rfl) ?_
        refine ah_aald (i := j) hx hb hE hR fp rfl (by omega) (by omega) dX2_aboutHeap_37 ?_
        rw [show hf j = some (d_a (D j)) from (hok.1 j (by omega)).1]
        refine lv_iload_n hx hb dX2_aboutHeap_38 rfl (lv_at hl 2 rfl) ?_
        refine ah_calli (va_runV (As := [.int (nI 1)]) (rest := []) ⟨hx, hb, hml, hown, hts⟩ (c_Heap_tell1 l G h (d_a (D j)) (d_p (D j)) (d_n (D j)) (d_t (D j)) (d_u (D j)) (d_l (D j)) (nI (d_s (D j))) (nI (d_r (D j))) (d_f (D j)) k_3a k_3b (by omega) (by omega) (by omega)) (cwV 1 hts gX2_aboutHeap_X1_tell rfl rfl rfl (by decide +kernel) ⟨Nat.le_of_ble_eq_true rfl, Nat.le_of_ble_eq_true rfl⟩) (ah_preV hE hR hS k_3a rfl) rfl rfl hl.1 rfl (lv_room (Nat.le_of_ble_eq_true rfl)) dX2_aboutHeap_39 ⟨Nat.le_of_ble_eq_true rfl, Nat.le_of_ble_eq_true rfl⟩) hS (fun r_7 h_5 H locs p_6 hR hS => ?_)
        obtain ⟨e_8, e_9⟩ := p_6
        rw [e_9] at hR
        refine ah_toi e_8 ?_
        refine ah_iret (v := nI (d_r (D j))) hx hb hr hlocks hR hS dX2_aboutHeap_42 ?_
        exact ⟨by rw [if_neg c_1, if_neg c_2, nI_clamp (by omega)], rfl⟩

set_option maxHeartbeats 4000000 in
set_option maxRecDepth 100000 in
theorem c_Ib_about2 (l : Launch) (G : ah_G) (h : ah_H) (ib hp rd c pt : Nat) (lo : Option Nat) (hf : Nat → Option Nat) (fi : h ib = some (8, .inr (1, [.ref rd, .ref hp, .int (nI c), .int (nI pt), va_rf lo]))) (fp : h hp = some (9, .inl (G.2.2.1 1, 16, .inr (.inr (.inr (.inr hf)))))) (hc : c ≤ 16) (D : Nat → hDt) (hok : ibOk G h c D hf) (x : Int32) : Met l yX2_aboutHeap wsX2_aboutHeap ({ frames := 1, cells := 0, slots := 0, locals := 21 }) (ah_Pc G [.ref ib, .int x, .int (nI 2)] h) (ah_Qi G (fun v h' => v = (if x < 0 then -1 else if nI c ≤ x then -1 else nI (d_n (D x.toNatClampNeg))) ∧ h' = h)) 0 0 (ah_A G) := by
  refine ah_ofW (cc := cX2_aboutHeap) (maxL := 3) (ret := (some .int)) (by decide) rfl (Nat.le_of_ble_eq_true rfl) ?_
  intro p e s m below meth cd9 ls hx hb hr hml hown hlocks hname hts hE hR hS hl
  have hown : s.vm.findClass RX2 = some m.cls := hown
  have hl : lv_has ls 3 [(0, .ref ib), (1, .int x), (2, .int (nI 2))] := hl
  have k58 := hts (.fieldLink RX2 58 "TextParts$Inbox" "heapCount" "I") (by decide +kernel)
  have hinX2 : ∀ w ∈ wsX20, w ∈ wsX2_aboutHeap := by decide +kernel
  have k20 := hts (.fieldLink RX2 20 "TextParts$Inbox" "heaps" "[LTextParts$Heap;") (by decide +kernel)
  refine lv_iload_n hx hb dX2_aboutHeap_0 rfl (lv_at hl 1 rfl) ?_
  refine lv_if_lt (tgt := 30) hx hb dX2_aboutHeap_1 (by decide) (fun c_1 => ?_) (fun c_1 => ?_)
  · skip
    refine lv_iconst (v := (-1)) hx hb dX2_aboutHeap_30 (by decide) ?_
    refine ah_iret (v := (-1)) hx hb hr hlocks hR hS dX2_aboutHeap_31 ?_
    exact ⟨(if_pos c_1).symm, rfl⟩
  · skip
    refine lv_iload_n hx hb dX2_aboutHeap_4 rfl (lv_at hl 1 rfl) ?_
    refine lv_aload_n hx hb dX2_aboutHeap_5 rfl (lv_at hl 0 rfl) ?_
    refine ah_get (ci := 1) (v := .int (nI c)) (C := RX2) (T := TX2) (N := 5) hx hb hE hR hts hinX2 hown fi rfl 2 (by decide) k58 (fun _ h9 => h9) rfl dX2_aboutHeap_6 ?_
    refine lv_icmp_ge (tgt := 30) hx hb dX2_aboutHeap_9 (by decide) (fun c_2 => ?_) (fun c_2 => ?_)
    · skip
      refine lv_iconst (v := (-1)) hx hb dX2_aboutHeap_30 (by decide) ?_
      refine ah_iret (v := (-1)) hx hb hr hlocks hR hS dX2_aboutHeap_31 ?_
      exact ⟨by rw [if_neg c_1, if_pos c_2], rfl⟩
    · skip
      obtain ⟨j, hj, rfl⟩ := ix_of c_1 c_2 (show c < 2 ^ 31 by omega)
      obtain ⟨k_3a, k_3b, k_3c, k_3d⟩ := (hok.1 j (by omega)).2
      refine lv_iload_n hx hb dX2_aboutHeap_12 rfl (lv_at hl 1 rfl) ?_
      refine lv_aload_n hx hb dX2_aboutHeap_13 rfl (lv_at hl 0 rfl) ?_
      refine ah_get (ci := 1) (v := .ref hp) (C := RX2) (T := TX2) (N := 5) hx hb hE hR hts hinX2 hown fi rfl 1 (by decide) k20 (fun _ h9 => h9) rfl dX2_aboutHeap_14 ?_
      refine ah_alen hx hb hE hR fp (show (ah_tys G)[1]? = some _ from rfl) dX2_aboutHeap_17 ?_
      refine lv_icmp_ge (tgt := 30) hx hb dX2_aboutHeap_18 (by decide) (fun c_4 => ?_) (fun c_4 => ?_)
      · skip
        have c_4 : 16 ≤ j := (nI_leI (by omega) (by omega)).mp c_4
        exact absurd c_4 (by omega)
      · skip
        have c_4 : ¬ (16 ≤ j) := fun z9 => c_4 ((nI_leI (by omega) (by omega)).mpr z9)
        refine lv_aload_n hx hb dX2_aboutHeap_21 rfl (lv_at hl 0 rfl) ?_
        refine ah_get (ci := 1) (v := .ref hp) (C := RX2) (T := TX2) (N := 5) hx hb hE hR hts hinX2 hown fi rfl 1 (by decide) k20 (fun _ h9 => h9) rfl dX2_aboutHeap_22 ?_
        refine lv_iload_n hx hb dX2_aboutHeap_25 rfl (lv_at hl 1 rfl) ?_
        refine ah_aald (i := j) hx hb hE hR fp rfl (by omega) (by omega) dX2_aboutHeap_26 ?_
        rw [show hf j = some (d_a (D j)) from (hok.1 j (by omega)).1]
        refine lv_ifnonnull (tgt := 32) hx hb dX2_aboutHeap_27 (by decide) ?_
        refine lv_aload_n hx hb dX2_aboutHeap_32 rfl (lv_at hl 0 rfl) ?_
        refine ah_get (ci := 1) (v := .ref hp) (C := RX2) (T := TX2) (N := 5) hx hb hE hR hts hinX2 hown fi rfl 1 (by decide) k20 (fun _ h9 => h9) rfl dX2_aboutHeap_33 ?_
        refine lv_iload_n hx hb dX2_aboutHeap_36 rfl (lv_at hl 1 rfl) ?_
        refine ah_aald (i := j) hx hb hE hR fp rfl (by omega) (by omega) dX2_aboutHeap_37 ?_
        rw [show hf j = some (d_a (D j)) from (hok.1 j (by omega)).1]
        refine lv_iload_n hx hb dX2_aboutHeap_38 rfl (lv_at hl 2 rfl) ?_
        refine ah_calli (va_runV (As := [.int (nI 2)]) (rest := []) ⟨hx, hb, hml, hown, hts⟩ (c_Heap_tell2 l G h (d_a (D j)) (d_p (D j)) (d_n (D j)) (d_t (D j)) (d_u (D j)) (d_l (D j)) (nI (d_s (D j))) (nI (d_r (D j))) (d_f (D j)) k_3a k_3b (by omega) (by omega) (by omega)) (cwV 1 hts gX2_aboutHeap_X1_tell rfl rfl rfl (by decide +kernel) ⟨Nat.le_of_ble_eq_true rfl, Nat.le_of_ble_eq_true rfl⟩) (ah_preV hE hR hS k_3a rfl) rfl rfl hl.1 rfl (lv_room (Nat.le_of_ble_eq_true rfl)) dX2_aboutHeap_39 ⟨Nat.le_of_ble_eq_true rfl, Nat.le_of_ble_eq_true rfl⟩) hS (fun r_7 h_5 H locs p_6 hR hS => ?_)
        obtain ⟨e_8, e_9⟩ := p_6
        rw [e_9] at hR
        refine ah_toi e_8 ?_
        refine ah_iret (v := nI (d_n (D j))) hx hb hr hlocks hR hS dX2_aboutHeap_42 ?_
        exact ⟨by rw [if_neg c_1, if_neg c_2, nI_clamp (by omega)], rfl⟩

set_option maxHeartbeats 4000000 in
set_option maxRecDepth 100000 in
theorem c_Ib_about3 (l : Launch) (G : ah_G) (h : ah_H) (ib hp rd c pt : Nat) (lo : Option Nat) (hf : Nat → Option Nat) (fi : h ib = some (8, .inr (1, [.ref rd, .ref hp, .int (nI c), .int (nI pt), va_rf lo]))) (fp : h hp = some (9, .inl (G.2.2.1 1, 16, .inr (.inr (.inr (.inr hf)))))) (hc : c ≤ 16) (D : Nat → hDt) (hok : ibOk G h c D hf) (x : Int32) : Met l yX2_aboutHeap wsX2_aboutHeap ({ frames := 1, cells := 0, slots := 0, locals := 21 }) (ah_Pc G [.ref ib, .int x, .int (nI 3)] h) (ah_Qi G (fun v h' => v = (if x < 0 then -1 else if nI c ≤ x then -1 else nI (d_t (D x.toNatClampNeg))) ∧ h' = h)) 0 0 (ah_A G) := by
  refine ah_ofW (cc := cX2_aboutHeap) (maxL := 3) (ret := (some .int)) (by decide) rfl (Nat.le_of_ble_eq_true rfl) ?_
  intro p e s m below meth cd9 ls hx hb hr hml hown hlocks hname hts hE hR hS hl
  have hown : s.vm.findClass RX2 = some m.cls := hown
  have hl : lv_has ls 3 [(0, .ref ib), (1, .int x), (2, .int (nI 3))] := hl
  have k58 := hts (.fieldLink RX2 58 "TextParts$Inbox" "heapCount" "I") (by decide +kernel)
  have hinX2 : ∀ w ∈ wsX20, w ∈ wsX2_aboutHeap := by decide +kernel
  have k20 := hts (.fieldLink RX2 20 "TextParts$Inbox" "heaps" "[LTextParts$Heap;") (by decide +kernel)
  refine lv_iload_n hx hb dX2_aboutHeap_0 rfl (lv_at hl 1 rfl) ?_
  refine lv_if_lt (tgt := 30) hx hb dX2_aboutHeap_1 (by decide) (fun c_1 => ?_) (fun c_1 => ?_)
  · skip
    refine lv_iconst (v := (-1)) hx hb dX2_aboutHeap_30 (by decide) ?_
    refine ah_iret (v := (-1)) hx hb hr hlocks hR hS dX2_aboutHeap_31 ?_
    exact ⟨(if_pos c_1).symm, rfl⟩
  · skip
    refine lv_iload_n hx hb dX2_aboutHeap_4 rfl (lv_at hl 1 rfl) ?_
    refine lv_aload_n hx hb dX2_aboutHeap_5 rfl (lv_at hl 0 rfl) ?_
    refine ah_get (ci := 1) (v := .int (nI c)) (C := RX2) (T := TX2) (N := 5) hx hb hE hR hts hinX2 hown fi rfl 2 (by decide) k58 (fun _ h9 => h9) rfl dX2_aboutHeap_6 ?_
    refine lv_icmp_ge (tgt := 30) hx hb dX2_aboutHeap_9 (by decide) (fun c_2 => ?_) (fun c_2 => ?_)
    · skip
      refine lv_iconst (v := (-1)) hx hb dX2_aboutHeap_30 (by decide) ?_
      refine ah_iret (v := (-1)) hx hb hr hlocks hR hS dX2_aboutHeap_31 ?_
      exact ⟨by rw [if_neg c_1, if_pos c_2], rfl⟩
    · skip
      obtain ⟨j, hj, rfl⟩ := ix_of c_1 c_2 (show c < 2 ^ 31 by omega)
      obtain ⟨k_3a, k_3b, k_3c, k_3d⟩ := (hok.1 j (by omega)).2
      refine lv_iload_n hx hb dX2_aboutHeap_12 rfl (lv_at hl 1 rfl) ?_
      refine lv_aload_n hx hb dX2_aboutHeap_13 rfl (lv_at hl 0 rfl) ?_
      refine ah_get (ci := 1) (v := .ref hp) (C := RX2) (T := TX2) (N := 5) hx hb hE hR hts hinX2 hown fi rfl 1 (by decide) k20 (fun _ h9 => h9) rfl dX2_aboutHeap_14 ?_
      refine ah_alen hx hb hE hR fp (show (ah_tys G)[1]? = some _ from rfl) dX2_aboutHeap_17 ?_
      refine lv_icmp_ge (tgt := 30) hx hb dX2_aboutHeap_18 (by decide) (fun c_4 => ?_) (fun c_4 => ?_)
      · skip
        have c_4 : 16 ≤ j := (nI_leI (by omega) (by omega)).mp c_4
        exact absurd c_4 (by omega)
      · skip
        have c_4 : ¬ (16 ≤ j) := fun z9 => c_4 ((nI_leI (by omega) (by omega)).mpr z9)
        refine lv_aload_n hx hb dX2_aboutHeap_21 rfl (lv_at hl 0 rfl) ?_
        refine ah_get (ci := 1) (v := .ref hp) (C := RX2) (T := TX2) (N := 5) hx hb hE hR hts hinX2 hown fi rfl 1 (by decide) k20 (fun _ h9 => h9) rfl dX2_aboutHeap_22 ?_
        refine lv_iload_n hx hb dX2_aboutHeap_25 rfl (lv_at hl 1 rfl) ?_
        refine ah_aald (i := j) hx hb hE hR fp rfl (by omega) (by omega) dX2_aboutHeap_26 ?_
        rw [show hf j = some (d_a (D j)) from (hok.1 j (by omega)).1]
        refine lv_ifnonnull (tgt := 32) hx hb dX2_aboutHeap_27 (by decide) ?_
        refine lv_aload_n hx hb dX2_aboutHeap_32 rfl (lv_at hl 0 rfl) ?_
        refine ah_get (ci := 1) (v := .ref hp) (C := RX2) (T := TX2) (N := 5) hx hb hE hR hts hinX2 hown fi rfl 1 (by decide) k20 (fun _ h9 => h9) rfl dX2_aboutHeap_33 ?_
        refine lv_iload_n hx hb dX2_aboutHeap_36 rfl (lv_at hl 1 rfl) ?_
        refine ah_aald (i := j) hx hb hE hR fp rfl (by omega) (by omega) dX2_aboutHeap_37 ?_
        rw [show hf j = some (d_a (D j)) from (hok.1 j (by omega)).1]
        refine lv_iload_n hx hb dX2_aboutHeap_38 rfl (lv_at hl 2 rfl) ?_
        refine ah_calli (va_runV (As := [.int (nI 3)]) (rest := []) ⟨hx, hb, hml, hown, hts⟩ (c_Heap_tell3 l G h (d_a (D j)) (d_p (D j)) (d_n (D j)) (d_t (D j)) (d_u (D j)) (d_l (D j)) (nI (d_s (D j))) (nI (d_r (D j))) (d_f (D j)) k_3a k_3b (by omega) (by omega) (by omega)) (cwV 1 hts gX2_aboutHeap_X1_tell rfl rfl rfl (by decide +kernel) ⟨Nat.le_of_ble_eq_true rfl, Nat.le_of_ble_eq_true rfl⟩) (ah_preV hE hR hS k_3a rfl) rfl rfl hl.1 rfl (lv_room (Nat.le_of_ble_eq_true rfl)) dX2_aboutHeap_39 ⟨Nat.le_of_ble_eq_true rfl, Nat.le_of_ble_eq_true rfl⟩) hS (fun r_7 h_5 H locs p_6 hR hS => ?_)
        obtain ⟨e_8, e_9⟩ := p_6
        rw [e_9] at hR
        refine ah_toi e_8 ?_
        refine ah_iret (v := nI (d_t (D j))) hx hb hr hlocks hR hS dX2_aboutHeap_42 ?_
        exact ⟨by rw [if_neg c_1, if_neg c_2, nI_clamp (by omega)], rfl⟩
