/-! ===== Folder ===== -/
theorem wr_one (f : FB) (a : Nat) (v : Int32) : wr f a [v] = prg f a v := by
  simp only [wr]
  cases h : (prg f a v).1 with
  | true => rw [if_pos rfl, ← h]
  | false => rw [if_neg (by decide), ← h]
def newer (f : FB) (b o : Nat) : Bool := decide (1 ≤ (gB f (b * 64) + 256 - gB f (o * 64)) % 256) && decide ((gB f (b * 64) + 256 - gB f (o * 64)) % 256 ≤ 127)
/-- the active block of a pair -/
def act (f : FB) (q : Nat) : Option Nat := if (nx f (2 * q) 1).isSome = true then (if (nx f (2 * q + 1) 1).isSome = true then (if newer f (2 * q + 1) (2 * q) = true then some (2 * q + 1) else some (2 * q)) else some (2 * q)) else (if (nx f (2 * q + 1) 1).isSome = true then some (2 * q + 1) else none)
theorem sub255 {x y : Nat} (hx : x < 256) (hy : y < 256) : (nI x - nI y) &&& 255 = nI ((x + 256 - y) % 256) := by
  have h : nI x - nI y = nI (x + 2 ^ 32 - y) := by
    apply Int32.toBitVec_inj.mp
    show (BitVec.ofNat 32 x) - (BitVec.ofNat 32 y) = BitVec.ofNat 32 (x + 2 ^ 32 - y)
    apply BitVec.eq_of_toNat_eq
    simp only [BitVec.toNat_sub, BitVec.toNat_ofNat]
    omega
  rw [h, pk_and (x := nI (x + 2 ^ 32 - y)) (m := 255) 8 (by decide)]
  congr 1
  have e : (nI (x + 2 ^ 32 - y)).toBitVec.toNat = (x + 2 ^ 32 - y) % 2 ^ 32 := by
    show (BitVec.ofNat 32 (x + 2 ^ 32 - y)).toNat = _
    rw [BitVec.toNat_ofNat]
  rw [e]
  omega
/-- behind the last record that counts, at most n records on -/
def lEn (f : FB) (b : Nat) : Nat → Nat → Nat
  | 0, e => e
  | n + 1, e => match nx f b e with
    | none => e
    | some e' => lEn f b n e'
def lE (f : FB) (b : Nat) : Nat := lEn f b 64 1
theorem oI_m1 (o : Option Nat) (h : ∀ n, o = some n → n < 2 ^ 31) : (oI o = -1) = (o = none) := by
  cases o with
  | none => simp [oI]
  | some n => simp [oI, m1_nI (h n rfl)]
theorem nx_m1 (f : FB) (b e : Nat) : (oI (nx f b e) = -1) = (nx f b e = none) := oI_m1 _ fun n h => by have := nx_lt h; omega
section FOLD
variable {sc : AC} {f : FB} {s c : OpS} {th be qu : Nat → Int32} {mo : Int32} {li : Nat → LiS} {mm : AH} {q : Nat} {es : List En} {mk : Option (Nat × Nat)} {w : Bool} {o o2 : OpS} {j : Nat → Int32} {bs : List Int32}
theorem gO0w {F : FlS} (hq : q < 8) : fld (hw w sc F o o2 th be qu mo li mm) (13 + 6 * q) 1 0 = some (.int (nI q)) := by cases w <;> exact gO0 hq
theorem gO1w {F : FlS} (hq : q < 8) : fld (hw w sc F o o2 th be qu mo li mm) (13 + 6 * q) 1 1 = some (.ref 2) := by cases w <;> exact gO1 hq
theorem gO2w {F : FlS} (hq : q < 8) : fld (hw w sc F o o2 th be qu mo li mm) (13 + 6 * q) 1 2 = some (.ref 5) := by cases w <;> exact gO2 hq
theorem iFw {F : FlS} : isO (hw w sc F o o2 th be qu mo li mm) 2 0 = true := by cases w <;> exact iF
theorem iOw {F : FlS} (hq : q < 8) : isO (hw w sc F o o2 th be qu mo li mm) (13 + 6 * q) 1 = true := by cases w <;> exact iO hq
theorem c7w {b o9 : Nat} {v : Int32} (hb : b < 16) (ho : o9 < 64) : RunM 7 [.ref 2, .int (nI b), .int (nI o9), .int v] (hw w sc (fB f) o o2 th be qu mo li mm) = some (some (.int (bB (prg f (b * 64 + o9) v).1)), hw w sc (fB (prg f (b * 64 + o9) v).2) o o2 th be qu mo li mm) := by cases w <;> exact c7 hb ho
theorem c18 (hB : BOk f) (hq : q < 8) {b b2 : Nat} (hb : b < 16) (hb2 : b2 < 16) : RunM 18 [.ref (13 + 6 * q), .int (nI b), .int (nI b2)] (hp sc (fB f) s c th be qu mo li mm) = some (some (.int (bB (newer f b b2))), (hp sc (fB f) s c th be qu mo li mm)) := by
  have h0 : ∀ {x : Nat}, x < 16 → pk f (nI x) 0 = nI (gB f (x * 64)) := fun {x} hx => pk_nI (o := 0) hB hx (by decide)
  have g1 := (hB (b * 64) (by omega)).2
  have g2 := (hB (b2 * 64) (by omega)).2
  simp only [e18, s18_0, s18_0n, s18_1, s18_4, s18_5, s18_6, s18_9, s18_9n, s18_10, s18_13, s18_14, s18_15, s18_18, s18_19, s18_22, s18_23, Option.bind_some, Option.bind_none, Option.toList_some, Option.toList_none, List.nil_append, List.cons_append, ↓reduceIte, reduceCtorEq, cl1_i, cl1_r, cl1_n, cl1_0, cl1_J, okS_0, okS_1, okS_2, okS_3, okS_4, bB_0, bB_and, z_0, z_1, z_10, bB_t, bB_f, Bool.true_eq_false, Bool.false_eq_true, gT0, gT1, gT2, gT3, gT4, gT5, gT6, gF0, gF1, gF2, gF3, gF4, gS0, gS1, gC0, gC1, iT, iF, iS, iC, sT6_0, sT6_1, sF2, sF3, sF4_0, sF4_1, sS1, sC1, gO0 hq, gO1 hq, gO2 hq, gO3 hq, gL0 hq, gL1 hq, gL2 hq, gL3 hq, gL4 hq, gL5 hq, gL6 hq, iO hq, iL hq, sL4 hq, sL5 hq, sL6 hq, c6, h0 hb, h0 hb2, sub255 g1 g2]
  generalize hx : (gB f (b * 64) + 256 - gB f (b2 * 64)) % 256 = x
  have hxl : x < 256 := by omega
  simp only [newer, hx]
  by_cases h1 : 1 ≤ x
  · have h3 : ¬ nI x < 1 := nI_nlt (b := 1) h1 (by omega)
    by_cases h2 : x ≤ 127
    · have h4 : ¬ 127 < nI x := nI_nlt (a := 127) h2 (by decide)
      simp only [s18_24, s18_25, s18_26, s18_29, s18_30, s18_32, s18_35, s18_36, s18_39, s18_40, Option.bind_some, Option.bind_none, Option.toList_some, Option.toList_none, List.nil_append, List.cons_append, ↓reduceIte, reduceCtorEq, cl1_i, cl1_r, cl1_n, cl1_0, cl1_J, okS_0, okS_1, okS_2, okS_3, okS_4, bB_0, bB_and, z_0, z_1, z_10, bB_t, bB_f, Bool.true_eq_false, Bool.false_eq_true, gT0, gT1, gT2, gT3, gT4, gT5, gT6, gF0, gF1, gF2, gF3, gF4, gS0, gS1, gC0, gC1, iT, iF, iS, iC, sT6_0, sT6_1, sF2, sF3, sF4_0, sF4_1, sS1, sC1, h3, h4, decide_eq_true h1, decide_eq_true h2, Bool.and_true]
    · have h4 : 127 < nI x := nI_lt (a := 127) (by omega) (by omega)
      simp only [s18_24, s18_25, s18_26, s18_29, s18_30, s18_32, s18_35, s18_36, s18_39, s18_40, Option.bind_some, Option.bind_none, Option.toList_some, Option.toList_none, List.nil_append, List.cons_append, ↓reduceIte, reduceCtorEq, cl1_i, cl1_r, cl1_n, cl1_0, cl1_J, okS_0, okS_1, okS_2, okS_3, okS_4, bB_0, bB_and, z_0, z_1, z_10, bB_t, bB_f, Bool.true_eq_false, Bool.false_eq_true, gT0, gT1, gT2, gT3, gT4, gT5, gT6, gF0, gF1, gF2, gF3, gF4, gS0, gS1, gC0, gC1, iT, iF, iS, iC, sT6_0, sT6_1, sF2, sF3, sF4_0, sF4_1, sS1, sC1, h3, h4, decide_eq_false h2, Bool.and_false]
  · have h3 : nI x < 1 := nI_lt (b := 1) (by omega) (by decide)
    simp only [s18_24, s18_25, s18_26, s18_29, s18_30, s18_32, s18_35, s18_36, s18_39, s18_40, Option.bind_some, Option.bind_none, Option.toList_some, Option.toList_none, List.nil_append, List.cons_append, ↓reduceIte, reduceCtorEq, cl1_i, cl1_r, cl1_n, cl1_0, cl1_J, okS_0, okS_1, okS_2, okS_3, okS_4, bB_0, bB_and, z_0, z_1, z_10, bB_t, bB_f, Bool.true_eq_false, Bool.false_eq_true, gT0, gT1, gT2, gT3, gT4, gT5, gT6, gF0, gF1, gF2, gF3, gF4, gS0, gS1, gC0, gC1, iT, iF, iS, iC, sT6_0, sT6_1, sF2, sF3, sF4_0, sF4_1, sS1, sC1, h3, decide_eq_false h1, Bool.false_and]
theorem c14 (hB : BOk f) (hq : q < 8) : RunM 14 [.ref (13 + 6 * q)] (hp sc (fB f) s c th be qu mo li mm) = some (some (.int (oI (act f q))), (hp sc (fB f) s c th be qu mo li mm)) := by
  have e1 : (2 : Int32) * nI q = nI (2 * q) := pk_mul 2 q
  have e2 : nI (2 * q) + 1 = nI (2 * q + 1) := nI_1 _
  have e3 : RunM 9 [.ref 2, .int (nI (2 * q)), .int 1] (hp sc (fB f) s c th be qu mo li mm) = some (some (.int (oI (nx f (2 * q) 1))), (hp sc (fB f) s c th be qu mo li mm)) := c9 (e := 1) hB (by omega) (by decide)
  have e4 : RunM 9 [.ref 2, .int (nI (2 * q + 1)), .int 1] (hp sc (fB f) s c th be qu mo li mm) = some (some (.int (oI (nx f (2 * q + 1) 1))), (hp sc (fB f) s c th be qu mo li mm)) := c9 (e := 1) hB (by omega) (by decide)
  simp only [e14, s14_0, s14_1, s14_1n, s14_2, s14_5, s14_6, s14_7, s14_8, s14_9, s14_10, s14_11, s14_11n, s14_12, s14_15, s14_16, s14_17, s14_20, s14_21, Option.bind_some, Option.bind_none, Option.toList_some, Option.toList_none, List.nil_append, List.cons_append, ↓reduceIte, reduceCtorEq, cl1_i, cl1_r, cl1_n, cl1_0, cl1_J, okS_0, okS_1, okS_2, okS_3, okS_4, bB_0, bB_and, z_0, z_1, z_10, bB_t, bB_f, Bool.true_eq_false, Bool.false_eq_true, gT0, gT1, gT2, gT3, gT4, gT5, gT6, gF0, gF1, gF2, gF3, gF4, gS0, gS1, gC0, gC1, iT, iF, iS, iC, sT6_0, sT6_1, sF2, sF3, sF4_0, sF4_1, sS1, sC1, gO0 hq, gO1 hq, gO2 hq, gO3 hq, gL0 hq, gL1 hq, gL2 hq, gL3 hq, gL4 hq, gL5 hq, gL6 hq, iO hq, iL hq, sL4 hq, sL5 hq, sL6 hq, e1, e2, e3, nx_m1]
  cases h1 : nx f (2 * q) 1 with
  | none =>
    simp only [s14_28, s14_29, s14_30, s14_30n, s14_31, s14_34, s14_35, s14_36, s14_39, s14_40, Option.bind_some, Option.bind_none, Option.toList_some, Option.toList_none, List.nil_append, List.cons_append, ↓reduceIte, reduceCtorEq, cl1_i, cl1_r, cl1_n, cl1_0, cl1_J, okS_0, okS_1, okS_2, okS_3, okS_4, bB_0, bB_and, z_0, z_1, z_10, bB_t, bB_f, Bool.true_eq_false, Bool.false_eq_true, gT0, gT1, gT2, gT3, gT4, gT5, gT6, gF0, gF1, gF2, gF3, gF4, gS0, gS1, gC0, gC1, iT, iF, iS, iC, sT6_0, sT6_1, sF2, sF3, sF4_0, sF4_1, sS1, sC1, gO0 hq, gO1 hq, gO2 hq, gO3 hq, gL0 hq, gL1 hq, gL2 hq, gL3 hq, gL4 hq, gL5 hq, gL6 hq, iO hq, iL hq, sL4 hq, sL5 hq, sL6 hq, e4, nx_m1]
    cases h2 : nx f (2 * q + 1) 1 with
    | none =>
      simp only [s14_47, s14_48, s14_50, s14_51, s14_54, s14_56, s14_59, s14_59n, s14_60, s14_61, s14_62, s14_65, s14_68, s14_69, s14_72, s14_73, s14_74, s14_75, s14_78, s14_79, s14_80, s14_82, s14_85, s14_86, s14_89, s14_90, Option.bind_some, Option.bind_none, Option.toList_some, Option.toList_none, List.nil_append, List.cons_append, ↓reduceIte, reduceCtorEq, cl1_i, cl1_r, cl1_n, cl1_0, cl1_J, okS_0, okS_1, okS_2, okS_3, okS_4, bB_0, bB_and, z_0, z_1, z_10, bB_t, bB_f, Bool.true_eq_false, Bool.false_eq_true, gT0, gT1, gT2, gT3, gT4, gT5, gT6, gF0, gF1, gF2, gF3, gF4, gS0, gS1, gC0, gC1, iT, iF, iS, iC, sT6_0, sT6_1, sF2, sF3, sF4_0, sF4_1, sS1, sC1]
      simp only [act, h1, h2]
      rfl
    | some y =>
      simp only [s14_43, s14_44, s14_47, s14_48, s14_50, s14_51, s14_54, s14_56, s14_59, s14_59n, s14_60, s14_61, s14_62, s14_65, s14_68, s14_69, s14_72, s14_73, s14_74, s14_75, s14_78, s14_79, s14_80, s14_82, s14_85, s14_86, s14_89, s14_90, Option.bind_some, Option.bind_none, Option.toList_some, Option.toList_none, List.nil_append, List.cons_append, ↓reduceIte, reduceCtorEq, cl1_i, cl1_r, cl1_n, cl1_0, cl1_J, okS_0, okS_1, okS_2, okS_3, okS_4, bB_0, bB_and, z_0, z_1, z_10, bB_t, bB_f, Bool.true_eq_false, Bool.false_eq_true, gT0, gT1, gT2, gT3, gT4, gT5, gT6, gF0, gF1, gF2, gF3, gF4, gS0, gS1, gC0, gC1, iT, iF, iS, iC, sT6_0, sT6_1, sF2, sF3, sF4_0, sF4_1, sS1, sC1]
      simp only [act, h1, h2]
      rfl
  | some x =>
    simp only [s14_24, s14_25, s14_28, s14_29, s14_30, s14_30n, s14_31, s14_34, s14_35, s14_36, s14_39, s14_40, Option.bind_some, Option.bind_none, Option.toList_some, Option.toList_none, List.nil_append, List.cons_append, ↓reduceIte, reduceCtorEq, cl1_i, cl1_r, cl1_n, cl1_0, cl1_J, okS_0, okS_1, okS_2, okS_3, okS_4, bB_0, bB_and, z_0, z_1, z_10, bB_t, bB_f, Bool.true_eq_false, Bool.false_eq_true, gT0, gT1, gT2, gT3, gT4, gT5, gT6, gF0, gF1, gF2, gF3, gF4, gS0, gS1, gC0, gC1, iT, iF, iS, iC, sT6_0, sT6_1, sF2, sF3, sF4_0, sF4_1, sS1, sC1, gO0 hq, gO1 hq, gO2 hq, gO3 hq, gL0 hq, gL1 hq, gL2 hq, gL3 hq, gL4 hq, gL5 hq, gL6 hq, iO hq, iL hq, sL4 hq, sL5 hq, sL6 hq, e4, nx_m1]
    cases h2 : nx f (2 * q + 1) 1 with
    | none =>
      simp only [s14_47, s14_48, s14_50, s14_51, s14_54, s14_56, s14_59, s14_59n, s14_60, s14_61, s14_62, s14_65, s14_68, s14_69, s14_72, s14_73, s14_74, s14_75, s14_78, s14_79, s14_80, s14_82, s14_85, s14_86, s14_89, s14_90, Option.bind_some, Option.bind_none, Option.toList_some, Option.toList_none, List.nil_append, List.cons_append, ↓reduceIte, reduceCtorEq, cl1_i, cl1_r, cl1_n, cl1_0, cl1_J, okS_0, okS_1, okS_2, okS_3, okS_4, bB_0, bB_and, z_0, z_1, z_10, bB_t, bB_f, Bool.true_eq_false, Bool.false_eq_true, gT0, gT1, gT2, gT3, gT4, gT5, gT6, gF0, gF1, gF2, gF3, gF4, gS0, gS1, gC0, gC1, iT, iF, iS, iC, sT6_0, sT6_1, sF2, sF3, sF4_0, sF4_1, sS1, sC1]
      simp only [act, h1, h2]
      rfl
    | some y =>
      simp only [s14_43, s14_44, s14_47, s14_48, s14_50, s14_51, s14_54, s14_56, s14_59, s14_59n, s14_60, s14_61, s14_62, Option.bind_some, Option.bind_none, Option.toList_some, Option.toList_none, List.nil_append, List.cons_append, ↓reduceIte, reduceCtorEq, cl1_i, cl1_r, cl1_n, cl1_0, cl1_J, okS_0, okS_1, okS_2, okS_3, okS_4, bB_0, bB_and, z_0, z_1, z_10, bB_t, bB_f, Bool.true_eq_false, Bool.false_eq_true, gT0, gT1, gT2, gT3, gT4, gT5, gT6, gF0, gF1, gF2, gF3, gF4, gS0, gS1, gC0, gC1, iT, iF, iS, iC, sT6_0, sT6_1, sF2, sF3, sF4_0, sF4_1, sS1, sC1, gO0 hq, gO1 hq, gO2 hq, gO3 hq, gL0 hq, gL1 hq, gL2 hq, gL3 hq, gL4 hq, gL5 hq, gL6 hq, iO hq, iL hq, sL4 hq, sL5 hq, sL6 hq]
      rw [c18 hB hq (by omega) (by omega)]
      cases h3 : newer f (2 * q + 1) (2 * q) with
      | true =>
        simp only [s14_65, s14_68, s14_69, s14_72, s14_73, s14_74, s14_75, s14_78, s14_79, s14_80, s14_82, s14_85, s14_86, s14_89, s14_90, Option.bind_some, Option.bind_none, Option.toList_some, Option.toList_none, List.nil_append, List.cons_append, ↓reduceIte, reduceCtorEq, cl1_i, cl1_r, cl1_n, cl1_0, cl1_J, okS_0, okS_1, okS_2, okS_3, okS_4, bB_0, bB_and, z_0, z_1, z_10, bB_t, bB_f, Bool.true_eq_false, Bool.false_eq_true, gT0, gT1, gT2, gT3, gT4, gT5, gT6, gF0, gF1, gF2, gF3, gF4, gS0, gS1, gC0, gC1, iT, iF, iS, iC, sT6_0, sT6_1, sF2, sF3, sF4_0, sF4_1, sS1, sC1]
        simp only [act, h1, h2, h3]
        rfl
      | false =>
        simp only [s14_65, s14_68, s14_69, s14_72, s14_73, s14_74, s14_75, s14_78, s14_79, s14_80, s14_82, s14_85, s14_86, s14_89, s14_90, Option.bind_some, Option.bind_none, Option.toList_some, Option.toList_none, List.nil_append, List.cons_append, ↓reduceIte, reduceCtorEq, cl1_i, cl1_r, cl1_n, cl1_0, cl1_J, okS_0, okS_1, okS_2, okS_3, okS_4, bB_0, bB_and, z_0, z_1, z_10, bB_t, bB_f, Bool.true_eq_false, Bool.false_eq_true, gT0, gT1, gT2, gT3, gT4, gT5, gT6, gF0, gF1, gF2, gF3, gF4, gS0, gS1, gC0, gC1, iT, iF, iS, iC, sT6_0, sT6_1, sF2, sF3, sF4_0, sF4_1, sS1, sC1]
        simp only [act, h1, h2, h3]
        rfl
theorem c19_lp (hB : BOk f) (hq : q < 8) {b : Nat} (hb : b < 16) : ∀ (n t e : Nat) (y : Option Value), t + n = 64 → e ≤ 64 → Run 19 4 [some (.ref (13 + 6 * q)), some (.int (nI b)), some (.int (nI e)), some (.int (nI t)), y] [] (hp sc (fB f) s c th be qu mo li mm) = some (some (.int (nI (lEn f b n e))), (hp sc (fB f) s c th be qu mo li mm)) := by
  intro n
  induction n with
  | zero =>
    intro t e y h1 h2
    obtain rfl : t = 64 := by omega
    have h3 : ¬ nI 64 < 64 := by decide
    simp only [s19_4, s19_5, s19_7, s19_38, s19_39, Option.bind_some, Option.bind_none, Option.toList_some, Option.toList_none, List.nil_append, List.cons_append, ↓reduceIte, reduceCtorEq, cl1_i, cl1_r, cl1_n, cl1_0, cl1_J, okS_0, okS_1, okS_2, okS_3, okS_4, bB_0, bB_and, z_0, z_1, z_10, bB_t, bB_f, Bool.true_eq_false, Bool.false_eq_true, gT0, gT1, gT2, gT3, gT4, gT5, gT6, gF0, gF1, gF2, gF3, gF4, gS0, gS1, gC0, gC1, iT, iF, iS, iC, sT6_0, sT6_1, sF2, sF3, sF4_0, sF4_1, sS1, sC1, h3]
    rfl
  | succ n ih =>
    intro t e y h1 h2
    have h3 : nI t < 64 := nI_lit (k := 64) (by omega) (by decide)
    simp only [s19_4, s19_5, s19_7, s19_10, s19_10n, s19_11, s19_14, s19_15, s19_16, Option.bind_some, Option.bind_none, Option.toList_some, Option.toList_none, List.nil_append, List.cons_append, ↓reduceIte, reduceCtorEq, cl1_i, cl1_r, cl1_n, cl1_0, cl1_J, okS_0, okS_1, okS_2, okS_3, okS_4, bB_0, bB_and, z_0, z_1, z_10, bB_t, bB_f, Bool.true_eq_false, Bool.false_eq_true, gT0, gT1, gT2, gT3, gT4, gT5, gT6, gF0, gF1, gF2, gF3, gF4, gS0, gS1, gC0, gC1, iT, iF, iS, iC, sT6_0, sT6_1, sF2, sF3, sF4_0, sF4_1, sS1, sC1, gO0 hq, gO1 hq, gO2 hq, gO3 hq, gL0 hq, gL1 hq, gL2 hq, gL3 hq, gL4 hq, gL5 hq, gL6 hq, iO hq, iL hq, sL4 hq, sL5 hq, sL6 hq, h3]
    rw [c9 hB hb (by omega)]
    simp only [s19_19, s19_21, s19_23, s19_24, Option.bind_some, Option.bind_none, Option.toList_some, Option.toList_none, List.nil_append, List.cons_append, ↓reduceIte, reduceCtorEq, cl1_i, cl1_r, cl1_n, cl1_0, cl1_J, okS_0, okS_1, okS_2, okS_3, okS_4, bB_0, bB_and, z_0, z_1, z_10, bB_t, bB_f, Bool.true_eq_false, Bool.false_eq_true, gT0, gT1, gT2, gT3, gT4, gT5, gT6, gF0, gF1, gF2, gF3, gF4, gS0, gS1, gC0, gC1, iT, iF, iS, iC, sT6_0, sT6_1, sF2, sF3, sF4_0, sF4_1, sS1, sC1, nx_m1]
    unfold lEn
    cases hn : nx f b e with
    | none => simp only [s19_27, s19_28, Option.bind_some, Option.bind_none, Option.toList_some, Option.toList_none, List.nil_append, List.cons_append, ↓reduceIte, reduceCtorEq, cl1_i, cl1_r, cl1_n, cl1_0, cl1_J, okS_0, okS_1, okS_2, okS_3, okS_4, bB_0, bB_and, z_0, z_1, z_10, bB_t, bB_f, Bool.true_eq_false, Bool.false_eq_true, gT0, gT1, gT2, gT3, gT4, gT5, gT6, gF0, gF1, gF2, gF3, gF4, gS0, gS1, gC0, gC1, iT, iF, iS, iC, sT6_0, sT6_1, sF2, sF3, sF4_0, sF4_1, sS1, sC1]
    | some e' =>
      have := nx_lt hn
      have ho : oI (some e') = nI e' := rfl
      simp only [s19_29, s19_31, s19_32, s19_35, Option.bind_some, Option.bind_none, Option.toList_some, Option.toList_none, List.nil_append, List.cons_append, ↓reduceIte, reduceCtorEq, cl1_i, cl1_r, cl1_n, cl1_0, cl1_J, okS_0, okS_1, okS_2, okS_3, okS_4, bB_0, bB_and, z_0, z_1, z_10, bB_t, bB_f, Bool.true_eq_false, Bool.false_eq_true, gT0, gT1, gT2, gT3, gT4, gT5, gT6, gF0, gF1, gF2, gF3, gF4, gS0, gS1, gC0, gC1, iT, iF, iS, iC, sT6_0, sT6_1, sF2, sF3, sF4_0, sF4_1, sS1, sC1, nI_1, ho]
      exact ih (t + 1) e' _ (by omega) (by omega)
theorem c19 (hB : BOk f) (hq : q < 8) {b : Nat} (hb : b < 16) : RunM 19 [.ref (13 + 6 * q), .int (nI b)] (hp sc (fB f) s c th be qu mo li mm) = some (some (.int (nI (lE f b))), (hp sc (fB f) s c th be qu mo li mm)) := by
  simp only [e19, s19_0, s19_1, s19_2, s19_3, Option.bind_some, Option.bind_none, Option.toList_some, Option.toList_none, List.nil_append, List.cons_append, ↓reduceIte, reduceCtorEq, cl1_i, cl1_r, cl1_n, cl1_0, cl1_J, okS_0, okS_1, okS_2, okS_3, okS_4, bB_0, bB_and, z_0, z_1, z_10, bB_t, bB_f, Bool.true_eq_false, Bool.false_eq_true, gT0, gT1, gT2, gT3, gT4, gT5, gT6, gF0, gF1, gF2, gF3, gF4, gS0, gS1, gC0, gC1, iT, iF, iS, iC, sT6_0, sT6_1, sF2, sF3, sF4_0, sF4_1, sS1, sC1]
  exact c19_lp hB hq hb 64 0 1 none (by omega) (by omega)
theorem c22_loop (hq : q < 8) {b a : Nat} (hb : b < 16) (ha : a + bs.length + 2 ≤ 64) : ∀ (rest : List Int32) (i : Nat) (f : FB), i ≤ bs.length → bs.drop i = rest → Run 22 21 [some (.ref (13 + 6 * q)), some (.int (nI b)), some (.int (nI a)), some (.ref (aw w)), some (.int (nI i))] [] (hw w sc (fB f) (opf j bs) o2 th be qu mo li mm) = some (some (.int (bB (wr f (b * 64 + (a + 1 + i)) (rest ++ [0])).1)), hw w sc (fB (wr f (b * 64 + (a + 1 + i)) (rest ++ [0])).2) (opf j bs) o2 th be qu mo li mm) := by
  intro rest
  induction rest with
  | nil =>
    intro i f hi h
    have h5 : bs.length ≤ i := List.drop_eq_nil_iff.mp h
    obtain rfl : i = bs.length := by omega
    have h3 : ¬ nI bs.length < nI bs.length := nI_nlt (Nat.le_refl _) (by omega)
    have e1 : nI a + 1 + nI bs.length = nI (a + 1 + bs.length) := by rw [nI_1, nI_add]
    simp only [s22_21, s22_23, s22_23n, s22_24, s22_27, s22_61, s22_61n, s22_62, s22_65, s22_66, s22_67, s22_68, s22_69, s22_69n, s22_70, Option.bind_some, Option.bind_none, Option.toList_some, Option.toList_none, List.nil_append, List.cons_append, ↓reduceIte, reduceCtorEq, cl1_i, cl1_r, cl1_n, cl1_0, cl1_J, okS_0, okS_1, okS_2, okS_3, okS_4, bB_0, bB_and, z_0, z_1, z_10, bB_t, bB_f, Bool.true_eq_false, Bool.false_eq_true, gT0, gT1, gT2, gT3, gT4, gT5, gT6, gF0, gF1, gF2, gF3, gF4, gS0, gS1, gC0, gC1, iT, iF, iS, iC, sT6_0, sT6_1, sF2, sF3, sF4_0, sF4_1, sS1, sC1, iW, c44, h3, gO1w hq]
    simp only [s22_73, s22_74, s22_75, Option.bind_some, Option.bind_none, Option.toList_some, Option.toList_none, List.nil_append, List.cons_append, ↓reduceIte, reduceCtorEq, cl1_i, cl1_r, cl1_n, cl1_0, cl1_J, okS_0, okS_1, okS_2, okS_3, okS_4, bB_0, bB_and, z_0, z_1, z_10, bB_t, bB_f, Bool.true_eq_false, Bool.false_eq_true, gT0, gT1, gT2, gT3, gT4, gT5, gT6, gF0, gF1, gF2, gF3, gF4, gS0, gS1, gC0, gC1, iT, iF, iS, iC, sT6_0, sT6_1, sF2, sF3, sF4_0, sF4_1, sS1, sC1, iFw, e1, c7w hb (show a + 1 + bs.length < 64 by omega)]
    simp only [s22_78, Option.bind_some, Option.bind_none, Option.toList_some, Option.toList_none, List.nil_append, List.cons_append, ↓reduceIte, reduceCtorEq, cl1_i, cl1_r, cl1_n, cl1_0, cl1_J, okS_0, okS_1, okS_2, okS_3, okS_4, bB_0, bB_and, z_0, z_1, z_10, bB_t, bB_f, Bool.true_eq_false, Bool.false_eq_true, gT0, gT1, gT2, gT3, gT4, gT5, gT6, gF0, gF1, gF2, gF3, gF4, gS0, gS1, gC0, gC1, iT, iF, iS, iC, sT6_0, sT6_1, sF2, sF3, sF4_0, sF4_1, sS1, sC1, List.nil_append, wr_one]
  | cons v rest ih =>
    intro i f hi h
    have h5 : i < bs.length := by
      rcases Nat.lt_or_ge i bs.length with q9 | q9
      · exact q9
      · rw [List.drop_eq_nil_of_le q9] at h; cases h
    rw [List.drop_eq_getElem_cons h5] at h
    simp only [List.cons.injEq] at h
    obtain ⟨hv, h7⟩ := h
    have h3 : nI i < nI bs.length := nI_lt h5 (by omega)
    have e1 : nI a + 1 + nI i = nI (a + 1 + i) := by rw [nI_1, nI_add]
    have e2 : bs.getD i 0 = v := by rw [List.getD_eq_getElem?_getD, List.getElem?_eq_getElem h5, hv]; rfl
    simp only [s22_21, s22_23, s22_23n, s22_24, s22_27, s22_30, s22_30n, s22_31, s22_34, s22_35, s22_36, s22_37, s22_38, s22_40, s22_41, s22_41n, s22_42, s22_44, Option.bind_some, Option.bind_none, Option.toList_some, Option.toList_none, List.nil_append, List.cons_append, ↓reduceIte, reduceCtorEq, cl1_i, cl1_r, cl1_n, cl1_0, cl1_J, okS_0, okS_1, okS_2, okS_3, okS_4, bB_0, bB_and, z_0, z_1, z_10, bB_t, bB_f, Bool.true_eq_false, Bool.false_eq_true, gT0, gT1, gT2, gT3, gT4, gT5, gT6, gF0, gF1, gF2, gF3, gF4, gS0, gS1, gC0, gC1, iT, iF, iS, iC, sT6_0, sT6_1, sF2, sF3, sF4_0, sF4_1, sS1, sC1, iW, c44, h3, gO1w hq, e1]
    rw [c45 (by omega) (by omega), e2]
    simp only [s22_47, Option.bind_some, Option.bind_none, Option.toList_some, Option.toList_none, List.nil_append, List.cons_append, ↓reduceIte, reduceCtorEq, cl1_i, cl1_r, cl1_n, cl1_0, cl1_J, okS_0, okS_1, okS_2, okS_3, okS_4, bB_0, bB_and, z_0, z_1, z_10, bB_t, bB_f, Bool.true_eq_false, Bool.false_eq_true, gT0, gT1, gT2, gT3, gT4, gT5, gT6, gF0, gF1, gF2, gF3, gF4, gS0, gS1, gC0, gC1, iT, iF, iS, iC, sT6_0, sT6_1, sF2, sF3, sF4_0, sF4_1, sS1, sC1, iFw, c7w hb (show a + 1 + i < 64 by omega)]
    simp only [List.cons_append, wr]
    cases hp : (prg f (b * 64 + (a + 1 + i)) v).1 with
    | true =>
      simp only [s22_50, s22_55, s22_58, Option.bind_some, Option.bind_none, Option.toList_some, Option.toList_none, List.nil_append, List.cons_append, ↓reduceIte, reduceCtorEq, cl1_i, cl1_r, cl1_n, cl1_0, cl1_J, okS_0, okS_1, okS_2, okS_3, okS_4, bB_0, bB_and, z_0, z_1, z_10, bB_t, bB_f, Bool.true_eq_false, Bool.false_eq_true, gT0, gT1, gT2, gT3, gT4, gT5, gT6, gF0, gF1, gF2, gF3, gF4, gS0, gS1, gC0, gC1, iT, iF, iS, iC, sT6_0, sT6_1, sF2, sF3, sF4_0, sF4_1, sS1, sC1, nI_1]
      exact ih (i + 1) _ h5 h7
    | false =>
      simp only [s22_50, s22_53, s22_54, Option.bind_some, Option.bind_none, Option.toList_some, Option.toList_none, List.nil_append, List.cons_append, ↓reduceIte, reduceCtorEq, cl1_i, cl1_r, cl1_n, cl1_0, cl1_J, okS_0, okS_1, okS_2, okS_3, okS_4, bB_0, bB_and, z_0, z_1, z_10, bB_t, bB_f, Bool.true_eq_false, Bool.false_eq_true, gT0, gT1, gT2, gT3, gT4, gT5, gT6, gF0, gF1, gF2, gF3, gF4, gS0, gS1, gC0, gC1, iT, iF, iS, iC, sT6_0, sT6_1, sF2, sF3, sF4_0, sF4_1, sS1, sC1]
theorem c22 (hq : q < 8) {b a : Nat} (hb : b < 16) (ha : a + bs.length + 2 ≤ 64) : RunM 22 [.ref (13 + 6 * q), .int (nI b), .int (nI a), .ref (aw w)] (hw w sc (fB f) (opf j bs) o2 th be qu mo li mm) = some (some (.int (bB (wr f (b * 64 + a) (nI bs.length :: (bs ++ [0]))).1)), hw w sc (fB (wr f (b * 64 + a) (nI bs.length :: (bs ++ [0]))).2) (opf j bs) o2 th be qu mo li mm) := by
  simp only [e22, s22_0, s22_0n, s22_1, s22_4, s22_5, s22_6, s22_6n, s22_7, s22_10, Option.bind_some, Option.bind_none, Option.toList_some, Option.toList_none, List.nil_append, List.cons_append, ↓reduceIte, reduceCtorEq, cl1_i, cl1_r, cl1_n, cl1_0, cl1_J, okS_0, okS_1, okS_2, okS_3, okS_4, bB_0, bB_and, z_0, z_1, z_10, bB_t, bB_f, Bool.true_eq_false, Bool.false_eq_true, gT0, gT1, gT2, gT3, gT4, gT5, gT6, gF0, gF1, gF2, gF3, gF4, gS0, gS1, gC0, gC1, iT, iF, iS, iC, sT6_0, sT6_1, sF2, sF3, sF4_0, sF4_1, sS1, sC1, iW, c44, gO1w hq, iFw, c7w hb (show a < 64 by omega)]
  simp only [wr]
  cases hp : (prg f (b * 64 + a) (nI bs.length)).1 with
  | true =>
    simp only [s22_13, s22_18, s22_19, Option.bind_some, Option.bind_none, Option.toList_some, Option.toList_none, List.nil_append, List.cons_append, ↓reduceIte, reduceCtorEq, cl1_i, cl1_r, cl1_n, cl1_0, cl1_J, okS_0, okS_1, okS_2, okS_3, okS_4, bB_0, bB_and, z_0, z_1, z_10, bB_t, bB_f, Bool.true_eq_false, Bool.false_eq_true, gT0, gT1, gT2, gT3, gT4, gT5, gT6, gF0, gF1, gF2, gF3, gF4, gS0, gS1, gC0, gC1, iT, iF, iS, iC, sT6_0, sT6_1, sF2, sF3, sF4_0, sF4_1, sS1, sC1]
    have := c22_loop (w := w) (sc := sc) (o2 := o2) (th := th) (be := be) (qu := qu) (mo := mo) (li := li) (mm := mm) (j := j) hq hb ha bs 0 (prg f (b * 64 + a) (nI bs.length)).2 (Nat.zero_le _) rfl
    rw [nI_0] at this
    rw [this]
    rfl
  | false =>
    simp only [s22_13, s22_16, s22_17, Option.bind_some, Option.bind_none, Option.toList_some, Option.toList_none, List.nil_append, List.cons_append, ↓reduceIte, reduceCtorEq, cl1_i, cl1_r, cl1_n, cl1_0, cl1_J, okS_0, okS_1, okS_2, okS_3, okS_4, bB_0, bB_and, z_0, z_1, z_10, bB_t, bB_f, Bool.true_eq_false, Bool.false_eq_true, gT0, gT1, gT2, gT3, gT4, gT5, gT6, gF0, gF1, gF2, gF3, gF4, gS0, gS1, gC0, gC1, iT, iF, iS, iC, sT6_0, sT6_1, sF2, sF3, sF4_0, sF4_1, sS1, sC1]
end FOLD
