/-! ===== arrays of naturals, numbers against 0, bits of naturals ===== -/
def nA (g : Nat → Nat) : Nat → Int32 := fun j => nI (g j)
def gU (g : Nat → Nat) (i v : Nat) : Nat → Nat := fun j => if j = i then v else g j
theorem gU_s (g : Nat → Nat) (i v : Nat) : gU g i v i = v := if_pos rfl
theorem gU_n {g : Nat → Nat} {i v j : Nat} (h : j ≠ i) : gU g i v j = g j := if_neg h
theorem nA_upd (g : Nat → Nat) (i v : Nat) : upd (nA g) i (nI v) = nA (gU g i v) := by
  funext j
  by_cases hj : j = i
  · subst hj; simp [upd, nA, gU]
  · simp [upd, nA, gU, hj]
theorem nA_0 : (fun _ => 0 : Nat → Int32) = nA (fun _ => 0) := by
  funext j; exact nI_0.symm
def gZ (g : Nat → Nat) (n v : Nat) : Nat → Nat := fun j => if j < n then v else g j
theorem gZ_0 (g : Nat → Nat) (v : Nat) : gZ g 0 v = g := by
  funext j; simp [gZ]
theorem gZ_s (g : Nat → Nat) (n v : Nat) : gU (gZ g n v) n v = gZ g (n + 1) v := by
  funext j
  by_cases hj : j = n
  · subst hj; simp [gU, gZ]
  · simp only [gU, gZ, if_neg hj]
    by_cases h2 : j < n
    · rw [if_pos h2, if_pos (by omega)]
    · rw [if_neg h2, if_neg (by omega)]
theorem zi_gt {a : Nat} (h : a < 2 ^ 31) : 0 < nI a ↔ 0 < a := by
  have := nI_ltI (a := 0) (b := a) (by omega) h
  rwa [nI_0] at this
theorem zi_le {a : Nat} (h : a < 2 ^ 31) : nI a ≤ 0 ↔ a ≤ 0 := by
  have := nI_leI (a := a) (b := 0) h (by omega)
  rwa [nI_0] at this
theorem zi_eq {a : Nat} (h : a < 2 ^ 31) : nI a = 0 ↔ a = 0 := by
  have := nI_eq (a := a) (b := 0) h (by omega)
  rwa [nI_0] at this
theorem zi_ne {a : Nat} (h : a < 2 ^ 31) : ¬ nI a = -1 := by
  intro e
  have h1 := congrArg Int32.toInt e
  rw [nI_toInt h] at h1
  have h2 : (-1 : Int32).toInt = -1 := by decide +kernel
  omega
/-- an index that was looked at -/
theorem ix_of {x : Int32} {n : Nat} (h0 : ¬ x < 0) (h1 : ¬ nI n ≤ x) (hn : n < 2 ^ 31) : ∃ j : Nat, j < n ∧ x = nI j := by
  rcases pk_ix x hn with q | q | q
  · exact absurd q h0
  · exact absurd q h1
  · exact q
theorem ny_or (a b : Nat) : nI a ||| nI b = nI (a ||| b) := by
  apply Int32.toBitVec_inj.1
  show BitVec.ofNat 32 a ||| BitVec.ofNat 32 b = BitVec.ofNat 32 (a ||| b)
  apply BitVec.eq_of_getLsbD_eq
  intro i hi
  simp [hi]
theorem ny_and (a b : Nat) : nI a &&& nI b = nI (a &&& b) := by
  apply Int32.toBitVec_inj.1
  show BitVec.ofNat 32 a &&& BitVec.ofNat 32 b = BitVec.ofNat 32 (a &&& b)
  apply BitVec.eq_of_getLsbD_eq
  intro i hi
  simp [hi]
theorem ny_sm : ∀ k, k < 32 → ((nI k &&& 31).toBitVec.smod 32).toNat = k := by decide +kernel
theorem ny_shl {a k : Nat} (hk : k < 32) (h : a * 2 ^ k < 2 ^ 32) : nI a <<< (nI k &&& 31) = nI (a * 2 ^ k) := pk_shlN _ k (ny_sm k hk) h
theorem ny_shr {a k : Nat} (hk : k < 32) (h : a < 2 ^ 31) : nI a >>> (nI k &&& 31) = nI (a / 2 ^ k) := pk_shrN h _ k (ny_sm k hk)
theorem ny_a127 (a : Nat) : nI a &&& nI 127 = nI (a % 128) := by
  rw [ny_and, show (127 : Nat) = 2 ^ 7 - 1 from rfl, Nat.and_two_pow_sub_one_eq_mod]
theorem ny_a255 (a : Nat) : nI a &&& nI 255 = nI (a % 256) := by
  rw [ny_and, show (255 : Nat) = 2 ^ 8 - 1 from rfl, Nat.and_two_pow_sub_one_eq_mod]
theorem ny_a1 (a : Nat) : nI a &&& nI 1 = nI (a % 2) := by
  rw [ny_and, show (1 : Nat) = 2 ^ 1 - 1 from rfl, Nat.and_two_pow_sub_one_eq_mod]
/-- a byte over a byte: side by side -/
theorem ny_or8 {a : Nat} (b : Nat) (ha : a < 256) : nI a ||| nI (b * 2 ^ 8) = nI (a + 256 * b) := by
  rw [ny_or]
  congr 1
  rw [Nat.or_comm, show b * 2 ^ 8 = 2 ^ 8 * b from Nat.mul_comm _ _, ← Nat.two_pow_add_eq_or_of_lt (i := 8) ha]
  omega
/-! ===== a row's bytes, read at any int ===== -/
def rwA (g : Nat → Nat) (z : Nat) (i : Int32) : Int32 := if i < 0 then -1 else if nI z ≤ i then -1 else nI (g i.toNatClampNeg)
theorem rwA_neg {g : Nat → Nat} {z : Nat} {i : Int32} (h : i < 0) : rwA g z i = -1 := if_pos h
theorem rwA_big {g : Nat → Nat} {z : Nat} {i : Int32} (h : nI z ≤ i) : rwA g z i = -1 := by
  unfold rwA
  by_cases h0 : i < 0
  · rw [if_pos h0]
  · rw [if_neg h0, if_pos h]
theorem rwA_in {g : Nat → Nat} {z i : Nat} (h : i < z) (hz : z < 2 ^ 31) : rwA g z (nI i) = nI (g i) := by
  unfold rwA; rw [if_neg (nI_pos (by omega)), if_neg (nI_ge h hz), nI_clamp (by omega)]
theorem rwA_out {g : Nat → Nat} {z i : Nat} (h : z ≤ i) (hi : i < 2 ^ 31) : rwA g z (nI i) = -1 := rwA_big (nI_le h hi)
/-- the byte at k, 0 behind the end -/
def bz (g : Nat → Nat) (z k : Nat) : Nat := if k < z then g k else 0
theorem bz_lt {g : Nat → Nat} {z k : Nat} (hg : ∀ j, g j < 256) : bz g z k < 256 := by
  unfold bz; split
  · exact hg k
  · omega
theorem bz_max {g : Nat → Nat} {z n k : Nat} (hg : ∀ j, g j < 256) (hz : z ≤ n) (hn : n < 2 ^ 31) (hk : k < 2 ^ 31) : (if nI 0 < rwA g z (nI k) then rwA g z (nI k) else nI 0) = nI (bz g z k) := by
  unfold bz
  have h9 := hg k
  by_cases h : k < z
  · rw [rwA_in h (by omega), if_pos h]
    by_cases h0 : 0 < g k
    · rw [if_pos ((nI_ltI (by omega) (by omega)).mpr h0)]
    · rw [if_neg (fun q => h0 ((nI_ltI (by omega) (by omega)).mp q)), show g k = 0 by omega]
  · rw [rwA_out (by omega) hk, if_neg h, if_neg (by decide +kernel)]
/-- seven number k of the contents, as the row reads it -/
def svn (g : Nat → Nat) (z k : Nat) : Nat := (bz g z (2 + 7 * k / 8) + 256 * bz g z (2 + 7 * k / 8 + 1)) / 2 ^ (7 * k % 8) % 128
/-- a byte laid at k, if it is within -/
def rwS (g : Nat → Nat) (z k v : Nat) : Nat → Nat := if k < z then gU g k v else g
/-- seven s added at place k -/
def rwAdd (g : Nat → Nat) (z k s : Nat) : Nat → Nat :=
  rwS (rwS g z (2 + 7 * k / 8) (bz g z (2 + 7 * k / 8) ||| s * 2 ^ (7 * k % 8) % 256)) z (2 + 7 * k / 8 + 1) (bz (rwS g z (2 + 7 * k / 8) (bz g z (2 + 7 * k / 8) ||| s * 2 ^ (7 * k % 8) % 256)) z (2 + 7 * k / 8 + 1) ||| s * 2 ^ (7 * k % 8) / 2 ^ 8)
theorem rwS_lt {g : Nat → Nat} {z k v : Nat} (hg : ∀ j, g j < 256) (hv : v < 256) : ∀ j, rwS g z k v j < 256 := by
  intro j
  unfold rwS
  split
  · unfold gU; split
    · exact hv
    · exact hg j
  · exact hg j
theorem or_lt8 {a b : Nat} (ha : a < 256) (hb : b < 256) : a ||| b < 256 := Nat.or_lt_two_pow (n := 8) ha hb
theorem mm_min {k n : Nat} (h1 : k < 2 ^ 31) (h2 : n < 2 ^ 31) (h : k ≤ n) : (if nI n < nI k then nI n else nI k) = nI k := if_neg (fun q => by have := (nI_ltI h2 h1).mp q; omega)
theorem mm_max {k : Nat} (h1 : k < 2 ^ 31) : (if nI 0 < nI k then nI k else nI 0) = nI k := by
  by_cases h : 0 < k
  · rw [if_pos ((nI_ltI (by omega) h1).mpr h)]
  · rw [if_neg (fun q => h ((nI_ltI (by omega) h1).mp q)), show k = 0 by omega]
