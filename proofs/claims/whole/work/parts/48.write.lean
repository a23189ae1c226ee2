/-! ===== write ===== -/
theorem kids_put {es : List En} {e : En} {y : Nat} (h : y ∈ kids (putE es e)) : y ∈ kids es ∨ (e.2.1 = 2 ∧ y = e.2.2.1) := by
  obtain ⟨z, hz, h1, h2⟩ := kids_mem.mp h
  unfold putE at hz
  split at hz
  · rcases List.mem_or_eq_of_mem_set hz with h9 | h9
    · exact Or.inl (kids_mem.mpr ⟨z, h9, h1, h2⟩)
    · subst h9; exact Or.inr ⟨h1, h2.symm⟩
  · rcases List.mem_append.mp hz with h9 | h9
    · exact Or.inl (kids_mem.mpr ⟨z, h9, h1, h2⟩)
    · rw [List.mem_singleton] at h9; subst h9; exact Or.inr ⟨h1, h2.symm⟩
theorem kids_gone {es : List En} {a y : Nat} (h : y ∈ kids (goneE es a)) : y ∈ kids es := by
  obtain ⟨z, hz, h1, h2⟩ := kids_mem.mp h
  unfold goneE at hz
  split at hz
  · exact kids_mem.mpr ⟨z, List.mem_of_mem_eraseIdx hz, h1, h2⟩
  · exact kids_mem.mpr ⟨z, hz, h1, h2⟩
theorem finC {Lo : LO} (hS : Sh Lo) (h0 : (Lo 0).isSome = true) (hno : ∀ x, Rch (lsO Lo) 0 x → (lsO Lo x).2 = none) {q : Nat} {st : Lst} (hk : ∀ y ∈ kids st.1, Rch (lsO Lo) 0 y ∨ Lo y = some nilL) (hmk : st.2 = none) : Sh (upO Lo q (some st)) ∧ ((upO Lo q (some st)) 0).isSome = true ∧ ∀ x, Rch (lsO (upO Lo q (some st))) 0 x → (lsO (upO Lo q (some st)) x).2 = none := by
  have hP : ∀ x, Rch (lsO (upO Lo q (some st))) 0 x → Rch (lsO Lo) 0 x ∨ Lo x = some nilL := fun x hx => Rch.in (P := fun x => Rch (lsO Lo) 0 x ∨ Lo x = some nilL) (Or.inl Rch.rf) (fun x hx y hy => by
    by_cases hxq : x = q
    · subst hxq
      rw [lsO_self] at hy
      exact hk y hy
    · rw [lsO_ne _ _ hxq] at hy
      rcases hx with hx | hx
      · exact Or.inl (hx.step hy)
      · rw [lsO_of hx] at hy
        cases hy) hx
  have hN : ∀ x, Rch (lsO (upO Lo q (some st))) 0 x → (lsO (upO Lo q (some st)) x).2 = none := fun x hx => by
    by_cases hxq : x = q
    · subst hxq
      rw [lsO_self]
      exact hmk
    · rw [lsO_ne _ _ hxq]
      rcases hP x hx with h | h
      · exact hno x h
      · rw [lsO_of h]; rfl
  refine ⟨⟨fun x hx hn => ?_, fun x y hx hy h1 h2 => absurd (hN x hx) h1⟩, ?_, hN⟩
  · by_cases hxq : x = q
    · subst hxq
      rw [upO_self]
      rfl
    · rw [upO_ne _ _ hxq]
      rcases hP x hx with h | h
      · exact hS.1 x h hn
      · rw [h]; rfl
  · by_cases hxq : 0 = q
    · subst hxq
      rw [upO_self]
      rfl
    · rw [upO_ne _ _ hxq]
      exact h0
def nmOk (x : Int32) : Bool := decide (1 ≤ x.toInt) && decide (x.toInt ≤ 99)
theorem c74n {x : Int32} {h : AH} : RunM 74 [.int x] h = some (some (.int (bB (nmOk x))), h) := c74
theorem c114 {x : Int32} {h : AH} : RunM 114 [.int x] h = some (some (.int (bB (nmOk x))), h) := by
  have e1 : (1 : Int32).toInt = 1 := by decide
  have e2 : (99 : Int32).toInt = 99 := by decide
  unfold nmOk
  simp only [e114, s114_0, s114_1, s114_2, s114_5, s114_6, s114_8, s114_11, s114_12, s114_15, s114_16, Option.bind_some, Option.bind_none, Option.toList_some, Option.toList_none, List.nil_append, List.cons_append, ↓reduceIte, reduceCtorEq, cl1_i, cl1_r, cl1_n, cl1_0, cl1_J, okS_0, okS_1, okS_2, okS_3, okS_4, bB_0, bB_and, z_0, z_1, z_10, bB_t, bB_f, Bool.true_eq_false, Bool.false_eq_true, gT0, gT1, gT2, gT3, gT4, gT5, gT6, gF0, gF1, gF2, gF3, gF4, gS0, gS1, gC0, gC1, iT, iF, iS, iC, sT6_0, sT6_1, sF2, sF3, sF4_0, sF4_1, sS1, sC1]
  by_cases h1 : x < 1
  · rw [if_pos h1]
    rw [Int32.lt_iff_toInt_lt, e1] at h1
    rw [decide_eq_false (by omega)]
    rfl
  · rw [if_neg h1]
    rw [Int32.lt_iff_toInt_lt, e1] at h1
    by_cases h2 : 99 < x
    · rw [if_pos h2]
      rw [Int32.lt_iff_toInt_lt, e2] at h2
      rw [decide_eq_true (by omega), decide_eq_false (by omega)]
      rfl
    · rw [if_neg h2]
      rw [Int32.lt_iff_toInt_lt, e2] at h2
      rw [decide_eq_true (by omega), decide_eq_true (by omega)]
      rfl
theorem nm_of {x : Int32} (h : nmOk x = true) : ∃ a, 1 ≤ a ∧ a ≤ 99 ∧ x = nI a := by
  unfold nmOk at h
  rw [Bool.and_eq_true, decide_eq_true_eq, decide_eq_true_eq] at h
  have h0 : ¬ x < 0 := by
    rw [Int32.lt_iff_toInt_lt, show (0 : Int32).toInt = 0 by decide]
    omega
  obtain ⟨k, hk, rfl⟩ := nI_of h0
  have : (nI k).toInt = k := nI_toInt hk
  rw [this] at h
  exact ⟨k, by omega, by omega, rfl⟩
theorem nm_nI {a : Nat} (h1 : 1 ≤ a) (h2 : a ≤ 99) : nmOk (nI a) = true := by
  unfold nmOk
  rw [show (nI a).toInt = a from nI_toInt (by omega), decide_eq_true (by omega), decide_eq_true (by omega)]
  rfl
section CW
variable {sc : AC} {f : FB} {s c : OpS} {th be qu : Nat → Int32} {mo : Int32} {li : Nat → LiS} {mm : AH} {j : Nat → Int32} {bs : List Int32} {F : FlS}
theorem c47c {a : Int32} {n : Nat} {x : Int64} (hn : n ≤ 6) (hb : bs.length + (3 + n) ≤ 64) : RunM 47 [.ref 11, .int a, .int (nI n), .long x] (hp sc (F) s (opf j bs) th be qu mo li mm) = some (none, (hp sc (F) s (opf j (bs ++ (1 :: a :: nI n :: byL x n))) th be qu mo li mm)) := c47 (w := true) hn hb
theorem c48c {a b : Int32} (hb : bs.length + 3 ≤ 64) : RunM 48 [.ref 11, .int a, .int b] (hp sc (F) s (opf j bs) th be qu mo li mm) = some (none, (hp sc (F) s (opf j (bs ++ [2, a, b])) th be qu mo li mm)) := c48 (w := true) hb
theorem c49c {a : Int32} (hb : bs.length + 2 ≤ 64) : RunM 49 [.ref 11, .int a] (hp sc (F) s (opf j bs) th be qu mo li mm) = some (none, (hp sc (F) s (opf j (bs ++ [3, a])) th be qu mo li mm)) := c49 (w := true) hb
theorem c50c {a b : Int32} (hb : bs.length + 3 ≤ 64) : RunM 50 [.ref 11, .int a, .int b] (hp sc (F) s (opf j bs) th be qu mo li mm) = some (none, (hp sc (F) s (opf j (bs ++ [4, a, b])) th be qu mo li mm)) := c50 (w := true) hb
theorem c51c (hb : bs.length + 1 ≤ 64) : RunM 51 [.ref 11] (hp sc (F) s (opf j bs) th be qu mo li mm) = some (none, (hp sc (F) s (opf j (bs ++ [5])) th be qu mo li mm)) := c51 (w := true) hb
theorem c35c {q : Nat} {es : List En} {mk : Option (Nat × Nat)} (hq : q < 8) (hL : LiR (li q) es mk) {k : Nat} {e : En} (he : es[k]? = some e) {x : Int32} (hb : bs.length + 9 ≤ 64) : RunM 35 [.ref (14 + 6 * q), .ref 11, .int (nI k), .int x] (hp sc (F) s (opf j bs) th be qu mo li mm) = some (none, (hp sc (F) s (opf j (bs ++ encE e x)) th be qu mo li mm)) := c35 (w := true) hq hL he hb
end CW
section MS
variable {sc : AC} {F : FlS} {s c : OpS} {th be qu : Nat → Int32} {mo : Int32} {li : Nat → LiS} {f : FB} {mt : Bool} {jl : Int32} {R : RgS} {O A : OpS} {j : Nat → Int32} {bs : List Int32}
theorem sM16r : stf (hp sc F s c th be qu mo li (hM (mS f mt jl R O A))) 61 5 16 (.int 0) = some (hp sc F s c th be qu mo li (hM (mS f mt jl R (opf O.1 []) A))) := by
  rw [sM16, ← opf_nil]
  rfl
/-- the bytes of a file, said -/
theorem w116_loop {n : Nat} {v : Int64} (hn : n ≤ 6) {a1 a2 a6 : Option Value} {y7 : Int32} : ∀ (d i : Nat) (bs : List Int32), i + d = n → bs.length + d ≤ 32 → Run 116 111 [some (.ref 61), a1, a2, some (.int (nI n)), some (.long v), none, a6, some (.int y7), some (.int (nI i))] [] (hp sc F s c th be qu mo li (hM (mS f mt jl R (opf j bs) A))) = Run 116 140 [some (.ref 61), a1, a2, some (.int (nI n)), some (.long v), none, a6, some (.int y7), some (.int (nI n))] [] (hp sc F s c th be qu mo li (hM (mS f mt jl R (opf j (bs ++ (List.range' i d).map (byJ v))) A))) := by
  intro d
  induction d with
  | zero =>
    intro i bs h1 h2
    obtain rfl : i = n := by omega
    have h3 : ¬ nI i < nI i := nI_nlt (Nat.le_refl _) (by omega)
    simp only [s116_111, s116_113, s116_114, Option.bind_some, Option.bind_none, Option.toList_some, Option.toList_none, List.nil_append, List.cons_append, ↓reduceIte, reduceCtorEq, cl1_i, cl1_r, cl1_n, cl1_0, cl1_J, okS_0, okS_1, okS_2, okS_3, okS_4, bB_0, bB_and, z_0, z_1, z_10, bB_t, bB_f, Bool.true_eq_false, Bool.false_eq_true, gT0, gT1, gT2, gT3, gT4, gT5, gT6, gF0, gF1, gF2, gF3, gF4, gS0, gS1, gC0, gC1, iT, iF, iS, iC, sT6_0, sT6_1, sF2, sF3, sF4_0, sF4_1, sS1, sC1, h3, List.range'_zero, List.map_nil, List.append_nil]
  | succ d ih =>
    intro i bs h1 h2
    have h3 : nI i < nI n := nI_lt (by omega) (by omega)
    have hb : (v >>> ((8 * nI i).toInt64 &&& 63)).toInt32 &&& 255 = byJ v i := byS_eq v (by omega)
    rw [s116_111]
    simp only [s116_113, s116_114, s116_117, s116_117n, s116_118, s116_120, s116_122, s116_124, s116_125, s116_126, s116_127, s116_130, Option.bind_some, Option.bind_none, Option.toList_some, Option.toList_none, List.nil_append, List.cons_append, ↓reduceIte, reduceCtorEq, cl1_i, cl1_r, cl1_n, cl1_0, cl1_J, okS_0, okS_1, okS_2, okS_3, okS_4, bB_0, bB_and, z_0, z_1, z_10, bB_t, bB_f, Bool.true_eq_false, Bool.false_eq_true, gT0, gT1, gT2, gT3, gT4, gT5, gT6, gF0, gF1, gF2, gF3, gF4, gS0, gS1, gC0, gC1, iT, iF, iS, iC, sT6_0, sT6_1, sF2, sF3, sF4_0, sF4_1, sS1, sC1, h3, hb]
    simp only [s116_131, s116_134, s116_137, Option.bind_some, Option.bind_none, Option.toList_some, Option.toList_none, List.nil_append, List.cons_append, ↓reduceIte, reduceCtorEq, cl1_i, cl1_r, cl1_n, cl1_0, cl1_J, okS_0, okS_1, okS_2, okS_3, okS_4, bB_0, bB_and, z_0, z_1, z_10, bB_t, bB_f, Bool.true_eq_false, Bool.false_eq_true, gT0, gT1, gT2, gT3, gT4, gT5, gT6, gF0, gF1, gF2, gF3, gF4, gS0, gS1, gC0, gC1, iT, iF, iS, iC, sT6_0, sT6_1, sF2, sF3, sF4_0, sF4_1, sS1, sC1, gM0, gM1, gM2, gM3, gM4, gM5, gM6, gM7, gM8, gM9, gM10, gM11, gM12, gM13, gM14, gM15, gM16, gM17, gM18, iM, sM5, sM6, sM11, sM12, sM13, sM14, sM16, sM18, sM2_0, sM2_1, sM3_0, sM3_1, sM4_0, sM4_1, mS_0, mS_1, mS_2, mS_3, mS_4, mS_5, mS_6, mS_7, mS_8, mS_9, mS_10, mS_11, mS_12, mS_13, mS_14, mS_15, mS_16, mS_17, mS_18, decide_true, decide_false, Bool.not_true, Bool.not_false, c107 (show bs.length < 32 by omega), nI_1]
    rw [ih (i + 1) _ (by omega) (by simp only [List.length_append, List.length_cons, List.length_nil]; omega), List.range'_succ, List.map_cons, List.append_assoc]
    rfl
end MS
section SAME
variable {sc : AC} {f : FB} {s c : OpS} {th be qu : Nat → Int32} {mt : Bool} {li : Nat → LiS} {jl : Int32} {R : RgS} {O A : OpS} {Lo : LO}
theorem boS (hX : IX f Lo) (hS : Sh Lo) (hU : mt = true → Mt f Lo li th) {m1 m2 : Nat} {args : List Value} {v : Option Value} (e1 : RunM m1 (.ref 1 :: args) (hp sc (fB f) s c th be qu (bB mt) li (hM (mS f mt jl R O A))) = some (v, (hp sc (fB f) s c th be qu (bB mt) li (hM (mS f mt jl R O A))))) (e2 : ∃ R' O', RunM m2 (.ref 61 :: args) (hp sc (fB f) s c th be qu (bB mt) li (hM (mS f mt jl R O A))) = some (v, (hp sc (fB f) s c th be qu (bB mt) li (hM (mS f mt jl (R') (O') A))))) : ∃ v H1 H2, RunM m1 (.ref 1 :: args) (hp sc (fB f) s c th be qu (bB mt) li (hM (mS f mt jl R O A))) = some (v, H1) ∧ RunM m2 (.ref 61 :: args) H1 = some (v, H2) ∧ IV sc H1 H2 := by
  obtain ⟨R', O', e2⟩ := e2
  exact ⟨v, _, _, e1, e2, mkI hX hS hU⟩
end SAME
section WRC
variable {sc : AC} {f : FB} {s c : OpS} {th be qu : Nat → Int32} {mo : Int32} {li : Nat → LiS} {mm : AH} {Lo : LO} {mt : Bool} {d x : Int32} {q : Nat} {es : List En} {mk : Option (Nat × Nat)} {n : Int32} {v : Int64}
theorem n60 (hN : mt = true → ThS Lo th ∧ tIn Lo d = false) : RunM 60 [.ref 1, .int d, .int x, .int n, .long v] (hp sc (fB f) s c th be qu (bB mt) li mm) = some (some (.int (refu f mt)), (hp sc (fB f) s c th be qu (bB mt) li mm)) := by
  simp only [e60, s60_0, s60_0n, s60_1, s60_2, s60_5, s60_5n, s60_7, s60_7n, s60_9, s60_9n, s60_12, s60_12n, s60_13, Option.bind_some, Option.bind_none, Option.toList_some, Option.toList_none, List.nil_append, List.cons_append, ↓reduceIte, reduceCtorEq, cl1_i, cl1_r, cl1_n, cl1_0, cl1_J, okS_0, okS_1, okS_2, okS_3, okS_4, bB_0, bB_and, z_0, z_1, z_10, bB_t, bB_f, Bool.true_eq_false, Bool.false_eq_true, gT0, gT1, gT2, gT3, gT4, gT5, gT6, gF0, gF1, gF2, gF3, gF4, gS0, gS1, gC0, gC1, iT, iF, iS, iC, sT6_0, sT6_1, sF2, sF3, sF4_0, sF4_1, sS1, sC1, c78N hN, c72r]
  simp only [s60_16, Option.bind_some, Option.bind_none, Option.toList_some, Option.toList_none, List.nil_append, List.cons_append, ↓reduceIte, reduceCtorEq, cl1_i, cl1_r, cl1_n, cl1_0, cl1_J, okS_0, okS_1, okS_2, okS_3, okS_4, bB_0, bB_and, z_0, z_1, z_10, bB_t, bB_f, Bool.true_eq_false, Bool.false_eq_true, gT0, gT1, gT2, gT3, gT4, gT5, gT6, gF0, gF1, gF2, gF3, gF4, gS0, gS1, gC0, gC1, iT, iF, iS, iC, sT6_0, sT6_1, sF2, sF3, sF4_0, sF4_1, sS1, sC1]
def badW (x n : Int32) : Bool := !nmOk x || decide (n < 0) || decide (6 < n)
theorem s60 {F : FlS} (hT : ThS Lo th) (hq : q < 8) (hb : (froS (lsO Lo) 0).testBit q = true) : RunM 60 [.ref 1, .int (nI q), .int x, .int n, .long v] (hp sc (F) s c th be qu (1) li mm) = if badW x n = true then some (some (.int (-1)), (hp sc (F) s c th be qu (1) li mm)) else Run 60 36 [some (.ref 1), some (.int (nI q)), some (.int x), some (.int n), some (.long v), none, some (.ref (13 + 6 * q)), none] [] (hp sc (F) s c th be qu (1) li mm) := by
  simp only [e60, s60_0, s60_0n, s60_1, s60_2, s60_5, s60_5n, s60_7, s60_7n, s60_9, s60_9n, Option.bind_some, Option.bind_none, Option.toList_some, Option.toList_none, List.nil_append, List.cons_append, ↓reduceIte, reduceCtorEq, cl1_i, cl1_r, cl1_n, cl1_0, cl1_J, okS_0, okS_1, okS_2, okS_3, okS_4, bB_0, bB_and, z_0, z_1, z_10, bB_t, bB_f, Bool.true_eq_false, Bool.false_eq_true, gT0, gT1, gT2, gT3, gT4, gT5, gT6, gF0, gF1, gF2, gF3, gF4, gS0, gS1, gC0, gC1, iT, iF, iS, iC, sT6_0, sT6_1, sF2, sF3, sF4_0, sF4_1, sS1, sC1, c78y hT hq hb]
  simp only [s60_17, s60_18, Option.bind_some, Option.bind_none, Option.toList_some, Option.toList_none, List.nil_append, List.cons_append, ↓reduceIte, reduceCtorEq, cl1_i, cl1_r, cl1_n, cl1_0, cl1_J, okS_0, okS_1, okS_2, okS_3, okS_4, bB_0, bB_and, z_0, z_1, z_10, bB_t, bB_f, Bool.true_eq_false, Bool.false_eq_true, gT0, gT1, gT2, gT3, gT4, gT5, gT6, gF0, gF1, gF2, gF3, gF4, gS0, gS1, gC0, gC1, iT, iF, iS, iC, sT6_0, sT6_1, sF2, sF3, sF4_0, sF4_1, sS1, sC1, c74n]
  unfold badW
  cases h1 : nmOk x with
  | false => simp only [s60_21, s60_34, s60_35, Option.bind_some, Option.bind_none, Option.toList_some, Option.toList_none, List.nil_append, List.cons_append, ↓reduceIte, reduceCtorEq, cl1_i, cl1_r, cl1_n, cl1_0, cl1_J, okS_0, okS_1, okS_2, okS_3, okS_4, bB_0, bB_and, z_0, z_1, z_10, bB_t, bB_f, Bool.true_eq_false, Bool.false_eq_true, gT0, gT1, gT2, gT3, gT4, gT5, gT6, gF0, gF1, gF2, gF3, gF4, gS0, gS1, gC0, gC1, iT, iF, iS, iC, sT6_0, sT6_1, sF2, sF3, sF4_0, sF4_1, sS1, sC1, Bool.not_false, Bool.true_or]
  | true =>
    by_cases h2 : n < 0
    · simp only [s60_21, s60_24, s60_25, s60_34, s60_35, Option.bind_some, Option.bind_none, Option.toList_some, Option.toList_none, List.nil_append, List.cons_append, ↓reduceIte, reduceCtorEq, cl1_i, cl1_r, cl1_n, cl1_0, cl1_J, okS_0, okS_1, okS_2, okS_3, okS_4, bB_0, bB_and, z_0, z_1, z_10, bB_t, bB_f, Bool.true_eq_false, Bool.false_eq_true, gT0, gT1, gT2, gT3, gT4, gT5, gT6, gF0, gF1, gF2, gF3, gF4, gS0, gS1, gC0, gC1, iT, iF, iS, iC, sT6_0, sT6_1, sF2, sF3, sF4_0, sF4_1, sS1, sC1, h2, Bool.not_true, Bool.false_or, decide_true, Bool.true_or]
    · by_cases h3 : 6 < n
      · simp only [s60_21, s60_24, s60_25, s60_28, s60_29, s60_31, s60_34, s60_35, Option.bind_some, Option.bind_none, Option.toList_some, Option.toList_none, List.nil_append, List.cons_append, ↓reduceIte, reduceCtorEq, cl1_i, cl1_r, cl1_n, cl1_0, cl1_J, okS_0, okS_1, okS_2, okS_3, okS_4, bB_0, bB_and, z_0, z_1, z_10, bB_t, bB_f, Bool.true_eq_false, Bool.false_eq_true, gT0, gT1, gT2, gT3, gT4, gT5, gT6, gF0, gF1, gF2, gF3, gF4, gS0, gS1, gC0, gC1, iT, iF, iS, iC, sT6_0, sT6_1, sF2, sF3, sF4_0, sF4_1, sS1, sC1, h2, h3, Bool.not_true, Bool.false_or, decide_true, decide_false]
      · simp only [s60_21, s60_24, s60_25, s60_28, s60_29, s60_31, Option.bind_some, Option.bind_none, Option.toList_some, Option.toList_none, List.nil_append, List.cons_append, ↓reduceIte, reduceCtorEq, cl1_i, cl1_r, cl1_n, cl1_0, cl1_J, okS_0, okS_1, okS_2, okS_3, okS_4, bB_0, bB_and, z_0, z_1, z_10, bB_t, bB_f, Bool.true_eq_false, Bool.false_eq_true, gT0, gT1, gT2, gT3, gT4, gT5, gT6, gF0, gF1, gF2, gF3, gF4, gS0, gS1, gC0, gC1, iT, iF, iS, iC, sT6_0, sT6_1, sF2, sF3, sF4_0, sF4_1, sS1, sC1, h2, h3, Bool.not_true, Bool.false_or, decide_false]
/-- what write finds in the list: 0 none of it, else the refusal -/
def wrV (es : List En) (x : Int32) : Int32 := match fiE es x with
  | none => if es.length = 4 then -3 else 0
  | some k => match es[k]? with
    | none => 0
    | some e => if e.2.1 = 2 then -2 else 0
theorem t60 {F : FlS} (hq : q < 8) (hL : LiR (li q) es mk) : ∃ y : Int32, Run 60 36 [some (.ref 1), some (.int (nI q)), some (.int x), some (.int n), some (.long v), none, some (.ref (13 + 6 * q)), none] [] (hp sc (F) s c th be qu (1) li mm) = if wrV es x = 0 then Run 60 83 [some (.ref 1), some (.int (nI q)), some (.int x), some (.int n), some (.long v), none, some (.ref (13 + 6 * q)), some (.int y)] [] (hp sc (F) s c th be qu (1) li mm) else some (some (.int (wrV es x)), (hp sc (F) s c th be qu (1) li mm)) := by
  refine ⟨oI (fiE es x), ?_⟩
  simp only [s60_36, s60_36n, s60_38, s60_41, s60_42, Option.bind_some, Option.bind_none, Option.toList_some, Option.toList_none, List.nil_append, List.cons_append, ↓reduceIte, reduceCtorEq, cl1_i, cl1_r, cl1_n, cl1_0, cl1_J, okS_0, okS_1, okS_2, okS_3, okS_4, bB_0, bB_and, z_0, z_1, z_10, bB_t, bB_f, Bool.true_eq_false, Bool.false_eq_true, gT0, gT1, gT2, gT3, gT4, gT5, gT6, gF0, gF1, gF2, gF3, gF4, gS0, gS1, gC0, gC1, iT, iF, iS, iC, sT6_0, sT6_1, sF2, sF3, sF4_0, sF4_1, sS1, sC1, gO0 hq, gO1 hq, gO2 hq, gO3 hq, gL0 hq, gL1 hq, gL2 hq, gL3 hq, gL4 hq, gL5 hq, gL6 hq, iO hq, iL hq, sL4 hq, sL5 hq, sL6 hq, c28 hq hL]
  simp only [s60_45, s60_47, s60_47n, s60_49, s60_52, s60_54, Option.bind_some, Option.bind_none, Option.toList_some, Option.toList_none, List.nil_append, List.cons_append, ↓reduceIte, reduceCtorEq, cl1_i, cl1_r, cl1_n, cl1_0, cl1_J, okS_0, okS_1, okS_2, okS_3, okS_4, bB_0, bB_and, z_0, z_1, z_10, bB_t, bB_f, Bool.true_eq_false, Bool.false_eq_true, gT0, gT1, gT2, gT3, gT4, gT5, gT6, gF0, gF1, gF2, gF3, gF4, gS0, gS1, gC0, gC1, iT, iF, iS, iC, sT6_0, sT6_1, sF2, sF3, sF4_0, sF4_1, sS1, sC1, gO0 hq, gO1 hq, gO2 hq, gO3 hq, gL0 hq, gL1 hq, gL2 hq, gL3 hq, gL4 hq, gL5 hq, gL6 hq, iO hq, iL hq, sL4 hq, sL5 hq, sL6 hq, c30 hq hL]
  unfold wrV
  cases hf : fiE es x with
  | none =>
    have h0 : isFo es (-1) = false := by unfold isFo; rw [eAt_m1]; rfl
    simp only [s60_57, s60_63, s60_65, s60_66, s60_69, s60_69n, s60_71, s60_74, Option.bind_some, Option.bind_none, Option.toList_some, Option.toList_none, List.nil_append, List.cons_append, ↓reduceIte, reduceCtorEq, cl1_i, cl1_r, cl1_n, cl1_0, cl1_J, okS_0, okS_1, okS_2, okS_3, okS_4, bB_0, bB_and, z_0, z_1, z_10, bB_t, bB_f, Bool.true_eq_false, Bool.false_eq_true, gT0, gT1, gT2, gT3, gT4, gT5, gT6, gF0, gF1, gF2, gF3, gF4, gS0, gS1, gC0, gC1, iT, iF, iS, iC, sT6_0, sT6_1, sF2, sF3, sF4_0, sF4_1, sS1, sC1, gO0 hq, gO1 hq, gO2 hq, gO3 hq, gL0 hq, gL1 hq, gL2 hq, gL3 hq, gL4 hq, gL5 hq, gL6 hq, iO hq, iL hq, sL4 hq, sL5 hq, sL6 hq, oI_n, h0, m1m1, c26 hq hL]
    by_cases h4 : es.length = 4
    · simp only [s60_77, s60_80, s60_82, Option.bind_some, Option.bind_none, Option.toList_some, Option.toList_none, List.nil_append, List.cons_append, ↓reduceIte, reduceCtorEq, cl1_i, cl1_r, cl1_n, cl1_0, cl1_J, okS_0, okS_1, okS_2, okS_3, okS_4, bB_0, bB_and, z_0, z_1, z_10, bB_t, bB_f, Bool.true_eq_false, Bool.false_eq_true, gT0, gT1, gT2, gT3, gT4, gT5, gT6, gF0, gF1, gF2, gF3, gF4, gS0, gS1, gC0, gC1, iT, iF, iS, iC, sT6_0, sT6_1, sF2, sF3, sF4_0, sF4_1, sS1, sC1, h4, decide_true, show ¬ (-3 : Int32) = 0 by decide]
    · simp only [s60_77, Option.bind_some, Option.bind_none, Option.toList_some, Option.toList_none, List.nil_append, List.cons_append, ↓reduceIte, reduceCtorEq, cl1_i, cl1_r, cl1_n, cl1_0, cl1_J, okS_0, okS_1, okS_2, okS_3, okS_4, bB_0, bB_and, z_0, z_1, z_10, bB_t, bB_f, Bool.true_eq_false, Bool.false_eq_true, gT0, gT1, gT2, gT3, gT4, gT5, gT6, gF0, gF1, gF2, gF3, gF4, gS0, gS1, gC0, gC1, iT, iF, iS, iC, sT6_0, sT6_1, sF2, sF3, sF4_0, sF4_1, sS1, sC1, h4, decide_false]
  | some k =>
    obtain ⟨e, he, -⟩ := fiE_get hf
    have hk : k < 2 ^ 31 := by have := (fiE_lt hf).1; have := hL.1; omega
    simp only [oI_s, isFo_at hL.1 he, he]
    by_cases h2 : e.2.1 = 2
    · simp only [s60_57, s60_60, s60_62, Option.bind_some, Option.bind_none, Option.toList_some, Option.toList_none, List.nil_append, List.cons_append, ↓reduceIte, reduceCtorEq, cl1_i, cl1_r, cl1_n, cl1_0, cl1_J, okS_0, okS_1, okS_2, okS_3, okS_4, bB_0, bB_and, z_0, z_1, z_10, bB_t, bB_f, Bool.true_eq_false, Bool.false_eq_true, gT0, gT1, gT2, gT3, gT4, gT5, gT6, gF0, gF1, gF2, gF3, gF4, gS0, gS1, gC0, gC1, iT, iF, iS, iC, sT6_0, sT6_1, sF2, sF3, sF4_0, sF4_1, sS1, sC1, h2, decide_true, show ¬ (-2 : Int32) = 0 by decide]
    · simp only [s60_57, s60_63, s60_65, s60_66, Option.bind_some, Option.bind_none, Option.toList_some, Option.toList_none, List.nil_append, List.cons_append, ↓reduceIte, reduceCtorEq, cl1_i, cl1_r, cl1_n, cl1_0, cl1_J, okS_0, okS_1, okS_2, okS_3, okS_4, bB_0, bB_and, z_0, z_1, z_10, bB_t, bB_f, Bool.true_eq_false, Bool.false_eq_true, gT0, gT1, gT2, gT3, gT4, gT5, gT6, gF0, gF1, gF2, gF3, gF4, gS0, gS1, gC0, gC1, iT, iF, iS, iC, sT6_0, sT6_1, sF2, sF3, sF4_0, sF4_1, sS1, sC1, h2, decide_false, m1_nI' hk]
end WRC
section WRM
variable {sc : AC} {F : FlS} {s c : OpS} {th be qu : Nat → Int32} {mo : Int32} {li : Nat → LiS} {f : FB} {mt : Bool} {jl : Int32} {R : RgS} {O A : OpS} {Lo : LO} {d x : Int32} {q : Nat} {n : Int32} {v : Int64}
theorem u116 (h : mt = false) : RunM 116 [.ref 61, .int d, .int x, .int n, .long v] (hp sc F s c th be qu mo li (hM (mS f mt jl R O A))) = some (some (.int (rdy f mt)), (hp sc F s c th be qu mo li (hM (mS f mt jl R O A)))) := by
  simp only [e116, s116_0, s116_0n, s116_1, s116_4, s116_7, s116_7n, s116_8, Option.bind_some, Option.bind_none, Option.toList_some, Option.toList_none, List.nil_append, List.cons_append, ↓reduceIte, reduceCtorEq, cl1_i, cl1_r, cl1_n, cl1_0, cl1_J, okS_0, okS_1, okS_2, okS_3, okS_4, bB_0, bB_and, z_0, z_1, z_10, bB_t, bB_f, Bool.true_eq_false, Bool.false_eq_true, gT0, gT1, gT2, gT3, gT4, gT5, gT6, gF0, gF1, gF2, gF3, gF4, gS0, gS1, gC0, gC1, iT, iF, iS, iC, sT6_0, sT6_1, sF2, sF3, sF4_0, sF4_1, sS1, sC1, gM0, gM1, gM2, gM3, gM4, gM5, gM6, gM7, gM8, gM9, gM10, gM11, gM12, gM13, gM14, gM15, gM16, gM17, gM18, iM, sM5, sM6, sM11, sM12, sM13, sM14, sM16, sM18, sM2_0, sM2_1, sM3_0, sM3_1, sM4_0, sM4_1, mS_0, mS_1, mS_2, mS_3, mS_4, mS_5, mS_6, mS_7, mS_8, mS_9, mS_10, mS_11, mS_12, mS_13, mS_14, mS_15, mS_16, mS_17, mS_18, decide_true, decide_false, Bool.not_true, Bool.not_false, c110r, rdy_neg h]
  simp only [s116_11, Option.bind_some, Option.bind_none, Option.toList_some, Option.toList_none, List.nil_append, List.cons_append, ↓reduceIte, reduceCtorEq, cl1_i, cl1_r, cl1_n, cl1_0, cl1_J, okS_0, okS_1, okS_2, okS_3, okS_4, bB_0, bB_and, z_0, z_1, z_10, bB_t, bB_f, Bool.true_eq_false, Bool.false_eq_true, gT0, gT1, gT2, gT3, gT4, gT5, gT6, gF0, gF1, gF2, gF3, gF4, gS0, gS1, gC0, gC1, iT, iF, iS, iC, sT6_0, sT6_1, sF2, sF3, sF4_0, sF4_1, sS1, sC1]
theorem w116 (hd : f.2.2.2.2 = false) (hX : IX f Lo) (ht : tIn Lo d = false) : ∃ R', RunM 116 [.ref 61, .int d, .int x, .int n, .long v] (hp sc F s c th be qu mo li (hM (mS f (true) jl R O A))) = some (some (.int (-1)), (hp sc F s c th be qu mo li (hM (mS f (true) jl (R') O A)))) := by
  obtain ⟨R', r1⟩ := c109q (sc := sc) (F := F) (s := s) (c := c) (th := th) (be := be) (qu := qu) (mo := mo) (li := li) (f := f) (mt := true) (jl := jl) (R := R) (O := O) (A := A) hX (d := d)
  rw [ht] at r1
  refine ⟨R', ?_⟩
  simp only [e116, s116_0, s116_0n, s116_1, s116_4, s116_7, s116_7n, s116_8, s116_11, s116_12, s116_12n, s116_13, Option.bind_some, Option.bind_none, Option.toList_some, Option.toList_none, List.nil_append, List.cons_append, ↓reduceIte, reduceCtorEq, cl1_i, cl1_r, cl1_n, cl1_0, cl1_J, okS_0, okS_1, okS_2, okS_3, okS_4, bB_0, bB_and, z_0, z_1, z_10, bB_t, bB_f, Bool.true_eq_false, Bool.false_eq_true, gT0, gT1, gT2, gT3, gT4, gT5, gT6, gF0, gF1, gF2, gF3, gF4, gS0, gS1, gC0, gC1, iT, iF, iS, iC, sT6_0, sT6_1, sF2, sF3, sF4_0, sF4_1, sS1, sC1, gM0, gM1, gM2, gM3, gM4, gM5, gM6, gM7, gM8, gM9, gM10, gM11, gM12, gM13, gM14, gM15, gM16, gM17, gM18, iM, sM5, sM6, sM11, sM12, sM13, sM14, sM16, sM18, sM2_0, sM2_1, sM3_0, sM3_1, sM4_0, sM4_1, mS_0, mS_1, mS_2, mS_3, mS_4, mS_5, mS_6, mS_7, mS_8, mS_9, mS_10, mS_11, mS_12, mS_13, mS_14, mS_15, mS_16, mS_17, mS_18, decide_true, decide_false, Bool.not_true, Bool.not_false, c110r, rdy_t hd, z00]
  simp only [s116_14, Option.bind_some, Option.bind_none, Option.toList_some, Option.toList_none, List.nil_append, List.cons_append, ↓reduceIte, reduceCtorEq, cl1_i, cl1_r, cl1_n, cl1_0, cl1_J, okS_0, okS_1, okS_2, okS_3, okS_4, bB_0, bB_and, z_0, z_1, z_10, bB_t, bB_f, Bool.true_eq_false, Bool.false_eq_true, gT0, gT1, gT2, gT3, gT4, gT5, gT6, gF0, gF1, gF2, gF3, gF4, gS0, gS1, gC0, gC1, iT, iF, iS, iC, sT6_0, sT6_1, sF2, sF3, sF4_0, sF4_1, sS1, sC1, gM0, gM1, gM2, gM3, gM4, gM5, gM6, gM7, gM8, gM9, gM10, gM11, gM12, gM13, gM14, gM15, gM16, gM17, gM18, iM, sM5, sM6, sM11, sM12, sM13, sM14, sM16, sM18, sM2_0, sM2_1, sM3_0, sM3_1, sM4_0, sM4_1, mS_0, mS_1, mS_2, mS_3, mS_4, mS_5, mS_6, mS_7, mS_8, mS_9, mS_10, mS_11, mS_12, mS_13, mS_14, mS_15, mS_16, mS_17, mS_18, decide_true, decide_false, Bool.not_true, Bool.not_false, r1]
  simp only [s116_17, s116_37, s116_38, Option.bind_some, Option.bind_none, Option.toList_some, Option.toList_none, List.nil_append, List.cons_append, ↓reduceIte, reduceCtorEq, cl1_i, cl1_r, cl1_n, cl1_0, cl1_J, okS_0, okS_1, okS_2, okS_3, okS_4, bB_0, bB_and, z_0, z_1, z_10, bB_t, bB_f, Bool.true_eq_false, Bool.false_eq_true, gT0, gT1, gT2, gT3, gT4, gT5, gT6, gF0, gF1, gF2, gF3, gF4, gS0, gS1, gC0, gC1, iT, iF, iS, iC, sT6_0, sT6_1, sF2, sF3, sF4_0, sF4_1, sS1, sC1]
theorem s116 (hd : f.2.2.2.2 = false) (hX : IX f Lo) (hq : q < 8) (hb : (froS (lsO Lo) 0).testBit q = true) : ∃ R', MgR R' (lsO Lo q).1 (lsO Lo q).2 ∧ ∃ y : Int32, (badW x n = true → ∃ R', RunM 116 [.ref 61, .int (nI q), .int x, .int n, .long v] (hp sc F s c th be qu mo li (hM (mS f (true) jl R O A))) = some (some (.int (-1)), (hp sc F s c th be qu mo li (hM (mS f (true) jl (R') O A))))) ∧ (badW x n = false → RunM 116 [.ref 61, .int (nI q), .int x, .int n, .long v] (hp sc F s c th be qu mo li (hM (mS f (true) jl R O A))) = if wrV (lsO Lo q).1 x = 0 then Run 116 88 [some (.ref 61), some (.int (nI q)), some (.int x), some (.int n), some (.long v), none, some (.int (oI (act f q))), some (.int y), none] [] (hp sc F s c th be qu mo li (hM (mS f (true) jl (R') O A))) else some (some (.int (wrV (lsO Lo q).1 x)), (hp sc F s c th be qu mo li (hM (mS f (true) jl (R') O A))))) := by
  obtain ⟨R1, r1⟩ := c109q (sc := sc) (F := F) (s := s) (c := c) (th := th) (be := be) (qu := qu) (mo := mo) (li := li) (f := f) (mt := true) (jl := jl) (R := R) (O := O) (A := A) hX (d := nI q)
  rw [tIn_nI hq, hb] at r1
  obtain ⟨R2, r2, r3⟩ := c101q (sc := sc) (F := F) (s := s) (c := c) (th := th) (be := be) (qu := qu) (mo := mo) (li := li) (f := f) (mt := true) (jl := jl) (R := R1) (O := O) (A := A) hX hq
  have h4 := r3.1
  refine ⟨R2, r3, oI (fiE (lsO Lo q).1 x), fun hb => ⟨R1, ?_⟩, fun hb => ?_⟩
  · simp only [e116, s116_0, s116_0n, s116_1, s116_4, s116_7, s116_7n, s116_8, s116_11, s116_12, s116_12n, s116_13, Option.bind_some, Option.bind_none, Option.toList_some, Option.toList_none, List.nil_append, List.cons_append, ↓reduceIte, reduceCtorEq, cl1_i, cl1_r, cl1_n, cl1_0, cl1_J, okS_0, okS_1, okS_2, okS_3, okS_4, bB_0, bB_and, z_0, z_1, z_10, bB_t, bB_f, Bool.true_eq_false, Bool.false_eq_true, gT0, gT1, gT2, gT3, gT4, gT5, gT6, gF0, gF1, gF2, gF3, gF4, gS0, gS1, gC0, gC1, iT, iF, iS, iC, sT6_0, sT6_1, sF2, sF3, sF4_0, sF4_1, sS1, sC1, gM0, gM1, gM2, gM3, gM4, gM5, gM6, gM7, gM8, gM9, gM10, gM11, gM12, gM13, gM14, gM15, gM16, gM17, gM18, iM, sM5, sM6, sM11, sM12, sM13, sM14, sM16, sM18, sM2_0, sM2_1, sM3_0, sM3_1, sM4_0, sM4_1, mS_0, mS_1, mS_2, mS_3, mS_4, mS_5, mS_6, mS_7, mS_8, mS_9, mS_10, mS_11, mS_12, mS_13, mS_14, mS_15, mS_16, mS_17, mS_18, decide_true, decide_false, Bool.not_true, Bool.not_false, c110r, rdy_t hd, z00]
    simp only [s116_14, s116_17, s116_20, Option.bind_some, Option.bind_none, Option.toList_some, Option.toList_none, List.nil_append, List.cons_append, ↓reduceIte, reduceCtorEq, cl1_i, cl1_r, cl1_n, cl1_0, cl1_J, okS_0, okS_1, okS_2, okS_3, okS_4, bB_0, bB_and, z_0, z_1, z_10, bB_t, bB_f, Bool.true_eq_false, Bool.false_eq_true, gT0, gT1, gT2, gT3, gT4, gT5, gT6, gF0, gF1, gF2, gF3, gF4, gS0, gS1, gC0, gC1, iT, iF, iS, iC, sT6_0, sT6_1, sF2, sF3, sF4_0, sF4_1, sS1, sC1, gM0, gM1, gM2, gM3, gM4, gM5, gM6, gM7, gM8, gM9, gM10, gM11, gM12, gM13, gM14, gM15, gM16, gM17, gM18, iM, sM5, sM6, sM11, sM12, sM13, sM14, sM16, sM18, sM2_0, sM2_1, sM3_0, sM3_1, sM4_0, sM4_1, mS_0, mS_1, mS_2, mS_3, mS_4, mS_5, mS_6, mS_7, mS_8, mS_9, mS_10, mS_11, mS_12, mS_13, mS_14, mS_15, mS_16, mS_17, mS_18, decide_true, decide_false, Bool.not_true, Bool.not_false, r1]
    simp only [s116_21, Option.bind_some, Option.bind_none, Option.toList_some, Option.toList_none, List.nil_append, List.cons_append, ↓reduceIte, reduceCtorEq, cl1_i, cl1_r, cl1_n, cl1_0, cl1_J, okS_0, okS_1, okS_2, okS_3, okS_4, bB_0, bB_and, z_0, z_1, z_10, bB_t, bB_f, Bool.true_eq_false, Bool.false_eq_true, gT0, gT1, gT2, gT3, gT4, gT5, gT6, gF0, gF1, gF2, gF3, gF4, gS0, gS1, gC0, gC1, iT, iF, iS, iC, sT6_0, sT6_1, sF2, sF3, sF4_0, sF4_1, sS1, sC1, c114]
    unfold badW at hb
    cases h1 : nmOk x with
    | false => simp only [s116_24, s116_37, s116_38, Option.bind_some, Option.bind_none, Option.toList_some, Option.toList_none, List.nil_append, List.cons_append, ↓reduceIte, reduceCtorEq, cl1_i, cl1_r, cl1_n, cl1_0, cl1_J, okS_0, okS_1, okS_2, okS_3, okS_4, bB_0, bB_and, z_0, z_1, z_10, bB_t, bB_f, Bool.true_eq_false, Bool.false_eq_true, gT0, gT1, gT2, gT3, gT4, gT5, gT6, gF0, gF1, gF2, gF3, gF4, gS0, gS1, gC0, gC1, iT, iF, iS, iC, sT6_0, sT6_1, sF2, sF3, sF4_0, sF4_1, sS1, sC1]
    | true =>
      by_cases h2 : n < 0
      · simp only [s116_24, s116_27, s116_28, s116_37, s116_38, Option.bind_some, Option.bind_none, Option.toList_some, Option.toList_none, List.nil_append, List.cons_append, ↓reduceIte, reduceCtorEq, cl1_i, cl1_r, cl1_n, cl1_0, cl1_J, okS_0, okS_1, okS_2, okS_3, okS_4, bB_0, bB_and, z_0, z_1, z_10, bB_t, bB_f, Bool.true_eq_false, Bool.false_eq_true, gT0, gT1, gT2, gT3, gT4, gT5, gT6, gF0, gF1, gF2, gF3, gF4, gS0, gS1, gC0, gC1, iT, iF, iS, iC, sT6_0, sT6_1, sF2, sF3, sF4_0, sF4_1, sS1, sC1, h2]
      · by_cases h3 : 6 < n
        · simp only [s116_24, s116_27, s116_28, s116_31, s116_32, s116_34, s116_37, s116_38, Option.bind_some, Option.bind_none, Option.toList_some, Option.toList_none, List.nil_append, List.cons_append, ↓reduceIte, reduceCtorEq, cl1_i, cl1_r, cl1_n, cl1_0, cl1_J, okS_0, okS_1, okS_2, okS_3, okS_4, bB_0, bB_and, z_0, z_1, z_10, bB_t, bB_f, Bool.true_eq_false, Bool.false_eq_true, gT0, gT1, gT2, gT3, gT4, gT5, gT6, gF0, gF1, gF2, gF3, gF4, gS0, gS1, gC0, gC1, iT, iF, iS, iC, sT6_0, sT6_1, sF2, sF3, sF4_0, sF4_1, sS1, sC1, h2, h3]
        · rw [h1, decide_eq_false h2, decide_eq_false h3] at hb
          cases hb
  · unfold badW at hb
    simp only [Bool.or_eq_false_iff, Bool.not_eq_false', decide_eq_false_iff_not] at hb
    obtain ⟨⟨g1, g2⟩, g3⟩ := hb
    simp only [e116, s116_0, s116_0n, s116_1, s116_4, s116_7, s116_7n, s116_8, s116_11, s116_12, s116_12n, s116_13, Option.bind_some, Option.bind_none, Option.toList_some, Option.toList_none, List.nil_append, List.cons_append, ↓reduceIte, reduceCtorEq, cl1_i, cl1_r, cl1_n, cl1_0, cl1_J, okS_0, okS_1, okS_2, okS_3, okS_4, bB_0, bB_and, z_0, z_1, z_10, bB_t, bB_f, Bool.true_eq_false, Bool.false_eq_true, gT0, gT1, gT2, gT3, gT4, gT5, gT6, gF0, gF1, gF2, gF3, gF4, gS0, gS1, gC0, gC1, iT, iF, iS, iC, sT6_0, sT6_1, sF2, sF3, sF4_0, sF4_1, sS1, sC1, gM0, gM1, gM2, gM3, gM4, gM5, gM6, gM7, gM8, gM9, gM10, gM11, gM12, gM13, gM14, gM15, gM16, gM17, gM18, iM, sM5, sM6, sM11, sM12, sM13, sM14, sM16, sM18, sM2_0, sM2_1, sM3_0, sM3_1, sM4_0, sM4_1, mS_0, mS_1, mS_2, mS_3, mS_4, mS_5, mS_6, mS_7, mS_8, mS_9, mS_10, mS_11, mS_12, mS_13, mS_14, mS_15, mS_16, mS_17, mS_18, decide_true, decide_false, Bool.not_true, Bool.not_false, c110r, rdy_t hd, z00]
    simp only [s116_14, s116_17, s116_20, Option.bind_some, Option.bind_none, Option.toList_some, Option.toList_none, List.nil_append, List.cons_append, ↓reduceIte, reduceCtorEq, cl1_i, cl1_r, cl1_n, cl1_0, cl1_J, okS_0, okS_1, okS_2, okS_3, okS_4, bB_0, bB_and, z_0, z_1, z_10, bB_t, bB_f, Bool.true_eq_false, Bool.false_eq_true, gT0, gT1, gT2, gT3, gT4, gT5, gT6, gF0, gF1, gF2, gF3, gF4, gS0, gS1, gC0, gC1, iT, iF, iS, iC, sT6_0, sT6_1, sF2, sF3, sF4_0, sF4_1, sS1, sC1, gM0, gM1, gM2, gM3, gM4, gM5, gM6, gM7, gM8, gM9, gM10, gM11, gM12, gM13, gM14, gM15, gM16, gM17, gM18, iM, sM5, sM6, sM11, sM12, sM13, sM14, sM16, sM18, sM2_0, sM2_1, sM3_0, sM3_1, sM4_0, sM4_1, mS_0, mS_1, mS_2, mS_3, mS_4, mS_5, mS_6, mS_7, mS_8, mS_9, mS_10, mS_11, mS_12, mS_13, mS_14, mS_15, mS_16, mS_17, mS_18, decide_true, decide_false, Bool.not_true, Bool.not_false, r1]
    simp only [s116_21, s116_24, s116_27, s116_28, s116_31, s116_32, s116_34, s116_37, s116_38, s116_39, s116_39n, s116_40, Option.bind_some, Option.bind_none, Option.toList_some, Option.toList_none, List.nil_append, List.cons_append, ↓reduceIte, reduceCtorEq, cl1_i, cl1_r, cl1_n, cl1_0, cl1_J, okS_0, okS_1, okS_2, okS_3, okS_4, bB_0, bB_and, z_0, z_1, z_10, bB_t, bB_f, Bool.true_eq_false, Bool.false_eq_true, gT0, gT1, gT2, gT3, gT4, gT5, gT6, gF0, gF1, gF2, gF3, gF4, gS0, gS1, gC0, gC1, iT, iF, iS, iC, sT6_0, sT6_1, sF2, sF3, sF4_0, sF4_1, sS1, sC1, c114, g1, g2, g3]
    simp only [s116_41, s116_44, s116_46, s116_46n, s116_47, Option.bind_some, Option.bind_none, Option.toList_some, Option.toList_none, List.nil_append, List.cons_append, ↓reduceIte, reduceCtorEq, cl1_i, cl1_r, cl1_n, cl1_0, cl1_J, okS_0, okS_1, okS_2, okS_3, okS_4, bB_0, bB_and, z_0, z_1, z_10, bB_t, bB_f, Bool.true_eq_false, Bool.false_eq_true, gT0, gT1, gT2, gT3, gT4, gT5, gT6, gF0, gF1, gF2, gF3, gF4, gS0, gS1, gC0, gC1, iT, iF, iS, iC, sT6_0, sT6_1, sF2, sF3, sF4_0, sF4_1, sS1, sC1, gM0, gM1, gM2, gM3, gM4, gM5, gM6, gM7, gM8, gM9, gM10, gM11, gM12, gM13, gM14, gM15, gM16, gM17, gM18, iM, sM5, sM6, sM11, sM12, sM13, sM14, sM16, sM18, sM2_0, sM2_1, sM3_0, sM3_1, sM4_0, sM4_1, mS_0, mS_1, mS_2, mS_3, mS_4, mS_5, mS_6, mS_7, mS_8, mS_9, mS_10, mS_11, mS_12, mS_13, mS_14, mS_15, mS_16, mS_17, mS_18, decide_true, decide_false, Bool.not_true, Bool.not_false, r2]
    simp only [s116_48, s116_51, s116_53, Option.bind_some, Option.bind_none, Option.toList_some, Option.toList_none, List.nil_append, List.cons_append, ↓reduceIte, reduceCtorEq, cl1_i, cl1_r, cl1_n, cl1_0, cl1_J, okS_0, okS_1, okS_2, okS_3, okS_4, bB_0, bB_and, z_0, z_1, z_10, bB_t, bB_f, Bool.true_eq_false, Bool.false_eq_true, gT0, gT1, gT2, gT3, gT4, gT5, gT6, gF0, gF1, gF2, gF3, gF4, gS0, gS1, gC0, gC1, iT, iF, iS, iC, sT6_0, sT6_1, sF2, sF3, sF4_0, sF4_1, sS1, sC1, gM0, gM1, gM2, gM3, gM4, gM5, gM6, gM7, gM8, gM9, gM10, gM11, gM12, gM13, gM14, gM15, gM16, gM17, gM18, iM, sM5, sM6, sM11, sM12, sM13, sM14, sM16, sM18, sM2_0, sM2_1, sM3_0, sM3_1, sM4_0, sM4_1, mS_0, mS_1, mS_2, mS_3, mS_4, mS_5, mS_6, mS_7, mS_8, mS_9, mS_10, mS_11, mS_12, mS_13, mS_14, mS_15, mS_16, mS_17, mS_18, decide_true, decide_false, Bool.not_true, Bool.not_false, c97 r3]
    unfold wrV
    cases hf : fiE (lsO Lo q).1 x with
    | none =>
      have hm : (-1 : Int32) < 0 := by decide
      simp only [s116_55, s116_72, s116_74, s116_77, s116_77n, s116_78, s116_81, Option.bind_some, Option.bind_none, Option.toList_some, Option.toList_none, List.nil_append, List.cons_append, ↓reduceIte, reduceCtorEq, cl1_i, cl1_r, cl1_n, cl1_0, cl1_J, okS_0, okS_1, okS_2, okS_3, okS_4, bB_0, bB_and, z_0, z_1, z_10, bB_t, bB_f, Bool.true_eq_false, Bool.false_eq_true, gT0, gT1, gT2, gT3, gT4, gT5, gT6, gF0, gF1, gF2, gF3, gF4, gS0, gS1, gC0, gC1, iT, iF, iS, iC, sT6_0, sT6_1, sF2, sF3, sF4_0, sF4_1, sS1, sC1, gM0, gM1, gM2, gM3, gM4, gM5, gM6, gM7, gM8, gM9, gM10, gM11, gM12, gM13, gM14, gM15, gM16, gM17, gM18, iM, sM5, sM6, sM11, sM12, sM13, sM14, sM16, sM18, sM2_0, sM2_1, sM3_0, sM3_1, sM4_0, sM4_1, mS_0, mS_1, mS_2, mS_3, mS_4, mS_5, mS_6, mS_7, mS_8, mS_9, mS_10, mS_11, mS_12, mS_13, mS_14, mS_15, mS_16, mS_17, mS_18, decide_true, decide_false, Bool.not_true, Bool.not_false, oI_n, hm, r3.2.1]
      by_cases h4 : (lsO Lo q).1.length = 4
      · simp only [s116_82, s116_85, s116_87, Option.bind_some, Option.bind_none, Option.toList_some, Option.toList_none, List.nil_append, List.cons_append, ↓reduceIte, reduceCtorEq, cl1_i, cl1_r, cl1_n, cl1_0, cl1_J, okS_0, okS_1, okS_2, okS_3, okS_4, bB_0, bB_and, z_0, z_1, z_10, bB_t, bB_f, Bool.true_eq_false, Bool.false_eq_true, gT0, gT1, gT2, gT3, gT4, gT5, gT6, gF0, gF1, gF2, gF3, gF4, gS0, gS1, gC0, gC1, iT, iF, iS, iC, sT6_0, sT6_1, sF2, sF3, sF4_0, sF4_1, sS1, sC1, h4, show ¬ (-3 : Int32) = 0 by decide, show nI 4 = 4 from rfl]
      · have h5 : ¬ nI (lsO Lo q).1.length = 4 := fun e => h4 ((nI_eq (b := 4) (by omega) (by decide)).mp e)
        simp only [s116_82, Option.bind_some, Option.bind_none, Option.toList_some, Option.toList_none, List.nil_append, List.cons_append, ↓reduceIte, reduceCtorEq, cl1_i, cl1_r, cl1_n, cl1_0, cl1_J, okS_0, okS_1, okS_2, okS_3, okS_4, bB_0, bB_and, z_0, z_1, z_10, bB_t, bB_f, Bool.true_eq_false, Bool.false_eq_true, gT0, gT1, gT2, gT3, gT4, gT5, gT6, gF0, gF1, gF2, gF3, gF4, gS0, gS1, gC0, gC1, iT, iF, iS, iC, sT6_0, sT6_1, sF2, sF3, sF4_0, sF4_1, sS1, sC1, h4, h5]
    | some k =>
      obtain ⟨e, he, -⟩ := fiE_get hf
      have hk4 : k < 4 := by have := (fiE_lt hf).1; omega
      have hk : k < 2 ^ 31 := by omega
      have hi4 : inB (nI k) 4 = true := inB_nI hk4 (by decide)
      obtain ⟨hE, hO⟩ := r3.2.2.1 k e he
      have hkp := nI_pos hk
      simp only [oI_s, he]
      rcases hO.2.2 with ⟨g, -⟩ | ⟨g, -⟩
      · have g1 : ¬ nI e.2.1 = 2 := by rw [g]; decide
        have g2 : ¬ e.2.1 = 2 := by omega
        simp only [s116_55, s116_58, s116_58n, s116_59, s116_62, s116_64, s116_65, s116_66, s116_72, s116_74, Option.bind_some, Option.bind_none, Option.toList_some, Option.toList_none, List.nil_append, List.cons_append, ↓reduceIte, reduceCtorEq, cl1_i, cl1_r, cl1_n, cl1_0, cl1_J, okS_0, okS_1, okS_2, okS_3, okS_4, bB_0, bB_and, z_0, z_1, z_10, bB_t, bB_f, Bool.true_eq_false, Bool.false_eq_true, gT0, gT1, gT2, gT3, gT4, gT5, gT6, gF0, gF1, gF2, gF3, gF4, gS0, gS1, gC0, gC1, iT, iF, iS, iC, sT6_0, sT6_1, sF2, sF3, sF4_0, sF4_1, sS1, sC1, gM0, gM1, gM2, gM3, gM4, gM5, gM6, gM7, gM8, gM9, gM10, gM11, gM12, gM13, gM14, gM15, gM16, gM17, gM18, iM, sM5, sM6, sM11, sM12, sM13, sM14, sM16, sM18, sM2_0, sM2_1, sM3_0, sM3_1, sM4_0, sM4_1, mS_0, mS_1, mS_2, mS_3, mS_4, mS_5, mS_6, mS_7, mS_8, mS_9, mS_10, mS_11, mS_12, mS_13, mS_14, mS_15, mS_16, mS_17, mS_18, decide_true, decide_false, Bool.not_true, Bool.not_false, hkp, a65 hi4, nI_clamp hk, hE.2.1, g1, g2]
      · have g1 : (nI 2 = 2) = True := by decide
        simp only [s116_55, s116_58, s116_58n, s116_59, s116_62, s116_64, s116_65, s116_66, s116_69, s116_71, Option.bind_some, Option.bind_none, Option.toList_some, Option.toList_none, List.nil_append, List.cons_append, ↓reduceIte, reduceCtorEq, cl1_i, cl1_r, cl1_n, cl1_0, cl1_J, okS_0, okS_1, okS_2, okS_3, okS_4, bB_0, bB_and, z_0, z_1, z_10, bB_t, bB_f, Bool.true_eq_false, Bool.false_eq_true, gT0, gT1, gT2, gT3, gT4, gT5, gT6, gF0, gF1, gF2, gF3, gF4, gS0, gS1, gC0, gC1, iT, iF, iS, iC, sT6_0, sT6_1, sF2, sF3, sF4_0, sF4_1, sS1, sC1, gM0, gM1, gM2, gM3, gM4, gM5, gM6, gM7, gM8, gM9, gM10, gM11, gM12, gM13, gM14, gM15, gM16, gM17, gM18, iM, sM5, sM6, sM11, sM12, sM13, sM14, sM16, sM18, sM2_0, sM2_1, sM3_0, sM3_1, sM4_0, sM4_1, mS_0, mS_1, mS_2, mS_3, mS_4, mS_5, mS_6, mS_7, mS_8, mS_9, mS_10, mS_11, mS_12, mS_13, mS_14, mS_15, mS_16, mS_17, mS_18, decide_true, decide_false, Bool.not_true, Bool.not_false, hkp, a65 hi4, nI_clamp hk, hE.2.1, g, g1, show ¬ (-2 : Int32) = 0 by decide]
end WRM
