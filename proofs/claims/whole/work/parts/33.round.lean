/-! ===== The operations that make a list make that list ===== -/
/-- the bytes of a number -/
def nbs (v : Int64) (n : Nat) : List Nat := (List.range n).map fun i => (byJ v i).toNatClampNeg
theorem byJ_byte (v : Int64) (i : Nat) : ∃ k, k < 256 ∧ byJ v i = nI k := mask_byte _
theorem nbs_map (v : Int64) (n : Nat) : (nbs v n).map nI = byL v n := by
  unfold nbs byL
  rw [List.map_map]
  refine List.map_congr_left fun i _ => ?_
  obtain ⟨k, hk, e⟩ := byJ_byte v i
  simp only [Function.comp, e, nI_clamp (show k < 2 ^ 31 by omega)]
theorem nbs_len (v : Int64) (n : Nat) : (nbs v n).length = n := by simp [nbs]
theorem nbs_lt (v : Int64) (n : Nat) : ∀ x ∈ nbs v n, x < 256 := by
  intro x hx
  unfold nbs at hx
  obtain ⟨i, -, rfl⟩ := List.mem_map.mp hx
  obtain ⟨k, hk, e⟩ := byJ_byte v i
  rw [e, nI_clamp (by omega)]
  exact hk
/-- the number, as a natural -/
def vN : List Nat → Nat → Nat
  | _, 0 => 0
  | xs, n + 1 => vN xs n + xs.getD n 0 * 2 ^ (8 * n)
theorem vN_lt {xs : List Nat} (h : ∀ x ∈ xs, x < 256) : ∀ n, vN xs n < 2 ^ (8 * n) := by
  intro n
  induction n with
  | zero => simp [vN]
  | succ n ih =>
    have hx : xs.getD n 0 < 256 := by
      rw [List.getD_eq_getElem?_getD]
      cases hn : xs[n]? with
      | none => simp
      | some x => exact h x (List.mem_of_getElem? hn)
    unfold vN
    have e : 2 ^ (8 * (n + 1)) = 256 * 2 ^ (8 * n) := by
      rw [show 8 * (n + 1) = 8 + 8 * n by omega, Nat.pow_add]
    rw [e]
    have : xs.getD n 0 * 2 ^ (8 * n) ≤ 255 * 2 ^ (8 * n) := Nat.mul_le_mul_right _ (by omega)
    omega
theorem lN_bv2 (n : Nat) : (lN n).toBitVec = BitVec.ofNat 64 n := rfl
theorem lN_inj {a b : Int64} (h : a.toBitVec = b.toBitVec) : a = b := Int64.toBitVec_inj.mp h
theorem sh63 : ∀ n, n < 7 → ((8 * nI n).toInt64 &&& 63).toBitVec.smod 64 = BitVec.ofNat 64 (8 * n) := by decide +kernel
theorem sh63u : ∀ n, n < 7 → ((8 * nI n).toInt64.toUInt64 &&& Int64.toUInt64 63).toBitVec.toNat = 8 * n := by decide +kernel
theorem shl_lN {x n : Nat} (hx : x < 256) (hn : n < 7) : (nI x).toInt64 <<< ((8 * nI n).toInt64 &&& 63) = lN (x * 2 ^ (8 * n)) := by
  rw [nI_l (by omega)]
  apply lN_inj
  show (lN x).toBitVec <<< (((8 * nI n).toInt64 &&& 63).toBitVec.smod 64) = _
  rw [sh63 n hn, lN_bv2, lN_bv2]
  apply BitVec.eq_of_toNat_eq
  rw [BitVec.shiftLeft_eq', BitVec.toNat_shiftLeft, BitVec.toNat_ofNat, BitVec.toNat_ofNat, BitVec.toNat_ofNat, Nat.shiftLeft_eq]
  have : 8 * n % 2 ^ 64 = 8 * n := Nat.mod_eq_of_lt (by omega)
  rw [this, Nat.mod_mul_mod]
theorem or_lN {a b k : Nat} (ha : a < 2 ^ k) (h : a + b * 2 ^ k < 2 ^ 64) : lN a ||| lN (b * 2 ^ k) = lN (a + b * 2 ^ k) := by
  apply lN_inj
  show (lN a).toBitVec ||| (lN (b * 2 ^ k)).toBitVec = _
  rw [lN_bv2, lN_bv2, lN_bv2]
  apply BitVec.eq_of_toNat_eq
  rw [BitVec.toNat_or, BitVec.toNat_ofNat, BitVec.toNat_ofNat, BitVec.toNat_ofNat, Nat.mod_eq_of_lt (by omega), Nat.mod_eq_of_lt (by omega), Nat.mod_eq_of_lt (by omega)]
  have := Nat.two_pow_add_eq_or_of_lt ha b
  rw [Nat.mul_comm] at this
  rw [Nat.or_comm, ← this]
  omega
theorem ctO_vN {xs : List Nat} (h : ∀ x ∈ xs, x < 256) : ∀ n, n ≤ 7 → ctO (xs.map nI) 0 n = lN (vN xs n) := by
  intro n
  induction n with
  | zero => intro _; rfl
  | succ n ih =>
    intro hn
    have hx : xs.getD n 0 < 256 := by
      rw [List.getD_eq_getElem?_getD]
      cases hn : xs[n]? with
      | none => simp
      | some x => exact h x (List.mem_of_getElem? hn)
    have e : (xs.map nI).getD (0 + n) 0 = nI (xs.getD n 0) := by
      rw [Nat.zero_add, List.getD_eq_getElem?_getD, List.getElem?_map, List.getD_eq_getElem?_getD]
      cases xs[n]? with
      | none => rfl
      | some x => rfl
    unfold ctO vN
    rw [ih (by omega), e, shl_lN hx (by omega)]
    refine or_lN (vN_lt h n) ?_
    have := vN_lt h (n + 1)
    unfold vN at this
    have h2 : 2 ^ (8 * (n + 1)) ≤ 2 ^ 64 := Nat.pow_le_pow_right (by decide) (by omega)
    omega
theorem byJ_vN {xs : List Nat} (h : ∀ x ∈ xs, x < 256) {n i : Nat} (hn : n ≤ 7) (hi : i < n) : byJ (lN (vN xs n)) i = nI (xs.getD i 0) := by
  have hb : ∀ m, m ≤ n → i < m → vN xs m / 2 ^ (8 * i) % 256 = xs.getD i 0 := by
    intro m
    induction m with
    | zero => intro _ h9; omega
    | succ m ih =>
      intro h1 h2
      have hx : ∀ k, xs.getD k 0 < 256 := fun k => by
        rw [List.getD_eq_getElem?_getD]
        cases hn : xs[k]? with
        | none => simp
        | some x => exact h x (List.mem_of_getElem? hn)
      unfold vN
      by_cases hm : i = m
      · subst hm
        rw [Nat.add_mul_div_right _ _ (Nat.two_pow_pos _), Nat.div_eq_of_lt (vN_lt h i), Nat.zero_add]
        exact Nat.mod_eq_of_lt (hx i)
      · have e : 2 ^ (8 * m) = 2 ^ (8 * (m - i - 1)) * 256 * 2 ^ (8 * i) := by
          rw [show (256 : Nat) = 2 ^ 8 by rfl, ← Nat.pow_add, ← Nat.pow_add]
          congr 1
          omega
        rw [e, ← Nat.mul_assoc, Nat.add_mul_div_right _ _ (Nat.two_pow_pos _), ← Nat.mul_assoc, Nat.add_mul_mod_self_right]
        exact ih (by omega) (by omega)
  have hlt : vN xs n < 2 ^ 64 := Nat.lt_of_lt_of_le (vN_lt h n) (Nat.pow_le_pow_right (by decide) (by omega))
  have hs : ((lN (vN xs n)).toUInt64 >>> ((8 * nI i).toInt64.toUInt64 &&& Int64.toUInt64 63)).toInt64 = lN (vN xs n / 2 ^ (8 * i)) := by
    apply lN_inj
    show (lN (vN xs n)).toBitVec >>> (((8 * nI i).toInt64.toUInt64 &&& Int64.toUInt64 63).toBitVec % 64) = _
    apply BitVec.eq_of_toNat_eq
    have h63 := sh63u i (by omega)
    rw [lN_bv2, lN_bv2, BitVec.ushiftRight_eq', BitVec.toNat_ushiftRight, BitVec.toNat_umod, h63, BitVec.toNat_ofNat, BitVec.toNat_ofNat, Nat.mod_eq_of_lt hlt, Nat.shiftRight_eq_div_pow]
    rw [show 8 * i % BitVec.toNat 64 = 8 * i from Nat.mod_eq_of_lt (by show 8 * i < 64; omega)]
    exact (Nat.mod_eq_of_lt (Nat.lt_of_le_of_lt (Nat.div_le_self _ _) hlt)).symm
  unfold byJ
  rw [hs]
  have e1 : (lN (vN xs n / 2 ^ (8 * i))).toInt32 = nI (vN xs n / 2 ^ (8 * i)) := lN_i _
  rw [e1, pk_and (m := 255) _ 8 (by decide)]
  congr 1
  have e2 : (nI (vN xs n / 2 ^ (8 * i))).toBitVec.toNat = vN xs n / 2 ^ (8 * i) % 2 ^ 32 := by
    show (BitVec.ofNat 32 _).toNat = _
    rw [BitVec.toNat_ofNat]
  rw [e2, Nat.mod_mod_of_dvd _ (by decide)]
  exact hb n (Nat.le_refl _) hi
theorem vB_eq {xs : List Nat} (h : ∀ x ∈ xs, x < 256) (hn : xs.length ≤ 6) : vB xs = lN (vN xs xs.length) := ctO_vN h _ (by omega)
theorem nbs_vB {xs : List Nat} (h : ∀ x ∈ xs, x < 256) (hn : xs.length ≤ 6) : nbs (vB xs) xs.length = xs := by
  rw [vB_eq h hn]
  apply List.ext_getElem?
  intro i
  by_cases hi : i < xs.length
  · unfold nbs
    rw [List.getElem?_map, List.getElem?_range hi, List.getElem?_eq_getElem hi]
    have hx : xs.getD i 0 = xs[i] := by rw [List.getD_eq_getElem?_getD, List.getElem?_eq_getElem hi]; rfl
    have hl : xs[i] < 256 := h _ (List.getElem_mem hi)
    simp only [Option.map_some]
    rw [byJ_vN h (by omega) hi, hx, nI_clamp (by omega)]
  · rw [List.getElem?_eq_none (by rw [nbs_len]; omega), List.getElem?_eq_none (by omega)]
