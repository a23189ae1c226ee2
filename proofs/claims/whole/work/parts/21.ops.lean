/-! ===== Operations: two objects, scratch (w = false) and change (w = true) ===== -/
def hw (w : Bool) (sc : AC) (F : FlS) (o o2 : OpS) (th be qu : Nat → Int32) (mo : Int32) (li : Nat → LiS) (mm : AH) : AH := match w with
  | false => hp sc F o o2 th be qu mo li mm
  | true => hp sc F o2 o th be qu mo li mm
def aw (w : Bool) : Nat := match w with
  | false => 5
  | true => 11
def ab (w : Bool) : Nat := match w with
  | false => 6
  | true => 12
/-- the bytes bs, and behind them what was there -/
def opf (j : Nat → Int32) (bs : List Int32) : OpS := (fun k => if k < bs.length then bs.getD k 0 else j k, nI bs.length)
theorem opf_1 (j : Nat → Int32) (bs : List Int32) : (opf j bs).2 = nI bs.length := rfl
theorem opf_nil (o : OpS) : (o.1, (0 : Int32)) = opf o.1 [] := by
  unfold opf
  simp
  decide
theorem opf_add (j : Nat → Int32) (bs : List Int32) (v : Int32) : (upd (opf j bs).1 bs.length v, nI (bs.length + 1)) = opf j (bs ++ [v]) := by
  unfold opf
  simp only [List.length_append, List.length_singleton, Prod.mk.injEq, and_true]
  funext k
  unfold upd
  dsimp only
  by_cases h1 : k = bs.length
  · subst h1
    simp
  · rw [if_neg h1]
    by_cases h2 : k < bs.length
    · rw [if_pos h2, if_pos (by omega)]
      simp [List.getD_eq_getElem?_getD, List.getElem?_append_left h2]
    · rw [if_neg h2, if_neg (by omega)]
theorem opf_at (j : Nat → Int32) (bs : List Int32) {k : Nat} (h : k < bs.length) : (opf j bs).1 k = bs.getD k 0 := if_pos h
theorem nI_lit {n k : Nat} (h : n < k) (hk : k < 2 ^ 31) : nI n < nI k := nI_lt h hk
section OPS
variable {sc : AC} {F : FlS} {o o2 : OpS} {th be qu : Nat → Int32} {mo : Int32} {li : Nat → LiS} {mm : AH} {w : Bool} {i v : Int32}
theorem gW0 : fld (hw w sc F o o2 th be qu mo li mm) (aw w) 3 0 = some (.ref (ab w)) := by cases w <;> rfl
theorem gW1 : fld (hw w sc F o o2 th be qu mo li mm) (aw w) 3 1 = some (.int o.2) := by cases w <;> rfl
theorem iW : isO (hw w sc F o o2 th be qu mo li mm) (aw w) 3 = true := by cases w <;> rfl
theorem lW : aln (hw w sc F o o2 th be qu mo li mm) (ab w) = some 64 := by cases w <;> rfl
theorem sW1 : stf (hw w sc F o o2 th be qu mo li mm) (aw w) 3 1 (.int v) = some (hw w sc F (o.1, v) o2 th be qu mo li mm) := by cases w with | false => exact sS1 | true => exact sC1
theorem aW (hi : inB i 64 = true) : ald (hw w sc F o o2 th be qu mo li mm) (ab w) .int i = some (.int (o.1 i.toNatClampNeg)) := by cases w with | false => exact a6 hi | true => exact a12 hi
theorem tW (hi : inB i 64 = true) : ast (hw w sc F o o2 th be qu mo li mm) (ab w) .int i (.int v) = some (hw w sc F (upd o.1 i.toNatClampNeg v, o.2) o2 th be qu mo li mm) := by cases w with | false => exact t6 hi | true => exact t12 hi
variable {j : Nat → Int32} {bs : List Int32}
theorem c43 : RunM 43 [.ref (aw w)] (hw w sc F o o2 th be qu mo li mm) = some (none, hw w sc F (opf o.1 []) o2 th be qu mo li mm) := by
  simp only [e43, s43_0, s43_0n, s43_1, s43_2, s43_5, Option.bind_some, Option.bind_none, Option.toList_some, Option.toList_none, List.nil_append, List.cons_append, ↓reduceIte, reduceCtorEq, cl1_i, cl1_r, cl1_n, cl1_0, cl1_J, okS_0, okS_1, okS_2, okS_3, okS_4, bB_0, bB_and, z_0, z_1, z_10, bB_t, bB_f, Bool.true_eq_false, Bool.false_eq_true, gT0, gT1, gT2, gT3, gT4, gT5, gT6, gF0, gF1, gF2, gF3, gF4, gS0, gS1, gC0, gC1, iT, iF, iS, iC, sT6_0, sT6_1, sF2, sF3, sF4_0, sF4_1, sS1, sC1, gW0, gW1, iW, lW, sW1, opf_nil]
theorem c44 : RunM 44 [.ref (aw w)] (hw w sc F (opf j bs) o2 th be qu mo li mm) = some (some (.int (nI bs.length)), hw w sc F (opf j bs) o2 th be qu mo li mm) := by
  simp only [e44, s44_0, s44_0n, s44_1, s44_4, Option.bind_some, Option.bind_none, Option.toList_some, Option.toList_none, List.nil_append, List.cons_append, ↓reduceIte, reduceCtorEq, cl1_i, cl1_r, cl1_n, cl1_0, cl1_J, okS_0, okS_1, okS_2, okS_3, okS_4, bB_0, bB_and, z_0, z_1, z_10, bB_t, bB_f, Bool.true_eq_false, Bool.false_eq_true, gT0, gT1, gT2, gT3, gT4, gT5, gT6, gF0, gF1, gF2, gF3, gF4, gS0, gS1, gC0, gC1, iT, iF, iS, iC, sT6_0, sT6_1, sF2, sF3, sF4_0, sF4_1, sS1, sC1, gW0, gW1, iW, lW, sW1, opf_1]
theorem c45 {k : Nat} (hk : k < 2 ^ 31) (hb : bs.length ≤ 64) : RunM 45 [.ref (aw w), .int (nI k)] (hw w sc F (opf j bs) o2 th be qu mo li mm) = some (some (.int (bs.getD k 0)), hw w sc F (opf j bs) o2 th be qu mo li mm) := by
  have h1 : ¬ nI k < 0 := nI_pos hk
  by_cases h2 : k < bs.length
  · have h3 : nI k < nI bs.length := nI_lt h2 (by omega)
    have h4 : nI k < 64 := nI_lit (k := 64) (by omega) (by decide)
    simp only [e45, s45_0, s45_1, s45_4, s45_5, s45_5n, s45_6, s45_9, s45_12, s45_13, s45_13n, s45_14, s45_17, s45_18, s45_21, s45_21n, s45_22, s45_25, s45_26, s45_27, s45_30, s45_31, Option.bind_some, Option.bind_none, Option.toList_some, Option.toList_none, List.nil_append, List.cons_append, ↓reduceIte, reduceCtorEq, cl1_i, cl1_r, cl1_n, cl1_0, cl1_J, okS_0, okS_1, okS_2, okS_3, okS_4, bB_0, bB_and, z_0, z_1, z_10, bB_t, bB_f, Bool.true_eq_false, Bool.false_eq_true, gT0, gT1, gT2, gT3, gT4, gT5, gT6, gF0, gF1, gF2, gF3, gF4, gS0, gS1, gC0, gC1, iT, iF, iS, iC, sT6_0, sT6_1, sF2, sF3, sF4_0, sF4_1, sS1, sC1, gW0, gW1, iW, lW, opf_1, h1, h3, h4, aW (inB_nI (show k < 64 by omega) (by decide)), nI_clamp hk, opf_at _ _ h2]
  · have h3 : ¬ nI k < nI bs.length := nI_nlt (by omega) hk
    simp only [e45, s45_0, s45_1, s45_4, s45_5, s45_5n, s45_6, s45_9, s45_12, s45_13, s45_13n, s45_14, s45_17, s45_18, s45_21, s45_21n, s45_22, s45_25, s45_26, s45_27, s45_30, s45_31, Option.bind_some, Option.bind_none, Option.toList_some, Option.toList_none, List.nil_append, List.cons_append, ↓reduceIte, reduceCtorEq, cl1_i, cl1_r, cl1_n, cl1_0, cl1_J, okS_0, okS_1, okS_2, okS_3, okS_4, bB_0, bB_and, z_0, z_1, z_10, bB_t, bB_f, Bool.true_eq_false, Bool.false_eq_true, gT0, gT1, gT2, gT3, gT4, gT5, gT6, gF0, gF1, gF2, gF3, gF4, gS0, gS1, gC0, gC1, iT, iF, iS, iC, sT6_0, sT6_1, sF2, sF3, sF4_0, sF4_1, sS1, sC1, gW0, gW1, iW, lW, opf_1, h1, h3]
    rw [List.getD_eq_getElem?_getD, List.getElem?_eq_none (by omega)]
    rfl
theorem c46 (hb : bs.length < 64) : RunM 46 [.ref (aw w), .int v] (hw w sc F (opf j bs) o2 th be qu mo li mm) = some (none, hw w sc F (opf j (bs ++ [v])) o2 th be qu mo li mm) := by
  have h1 : ¬ nI bs.length < 0 := nI_pos (by omega)
  have h4 : nI bs.length < 64 := nI_lit (k := 64) hb (by decide)
  simp only [e46, s46_0, s46_0n, s46_1, s46_4, s46_7, s46_7n, s46_8, s46_11, s46_11n, s46_12, s46_15, s46_16, s46_19, s46_19n, s46_20, s46_23, s46_23n, s46_24, s46_27, s46_28, s46_29, s46_29n, s46_30, s46_31, s46_34, s46_35, s46_36, s46_39, Option.bind_some, Option.bind_none, Option.toList_some, Option.toList_none, List.nil_append, List.cons_append, ↓reduceIte, reduceCtorEq, cl1_i, cl1_r, cl1_n, cl1_0, cl1_J, okS_0, okS_1, okS_2, okS_3, okS_4, bB_0, bB_and, z_0, z_1, z_10, bB_t, bB_f, Bool.true_eq_false, Bool.false_eq_true, gT0, gT1, gT2, gT3, gT4, gT5, gT6, gF0, gF1, gF2, gF3, gF4, gS0, gS1, gC0, gC1, iT, iF, iS, iC, sT6_0, sT6_1, sF2, sF3, sF4_0, sF4_1, sS1, sC1, gW0, gW1, iW, lW, sW1, opf_1, h1, h4, tW (inB_nI hb (by decide)), nI_clamp (show bs.length < 2 ^ 31 by omega), nI_1, opf_add]
theorem c48 {a b : Int32} (hb : bs.length + 3 ≤ 64) : RunM 48 [.ref (aw w), .int a, .int b] (hw w sc F (opf j bs) o2 th be qu mo li mm) = some (none, hw w sc F (opf j (bs ++ [2, a, b])) o2 th be qu mo li mm) := by
  simp only [e48, s48_0, s48_0n, s48_1, s48_2, s48_5, s48_5n, s48_6, s48_7, s48_10, s48_10n, s48_11, s48_12, s48_15, Option.bind_some, Option.bind_none, Option.toList_some, Option.toList_none, List.nil_append, List.cons_append, ↓reduceIte, reduceCtorEq, cl1_i, cl1_r, cl1_n, cl1_0, cl1_J, okS_0, okS_1, okS_2, okS_3, okS_4, bB_0, bB_and, z_0, z_1, z_10, bB_t, bB_f, Bool.true_eq_false, Bool.false_eq_true, gT0, gT1, gT2, gT3, gT4, gT5, gT6, gF0, gF1, gF2, gF3, gF4, gS0, gS1, gC0, gC1, iT, iF, iS, iC, sT6_0, sT6_1, sF2, sF3, sF4_0, sF4_1, sS1, sC1, iW]
  rw [c46 (by omega)]
  simp only [s48_0, s48_0n, s48_1, s48_2, s48_5, s48_5n, s48_6, s48_7, s48_10, s48_10n, s48_11, s48_12, s48_15, Option.bind_some, Option.bind_none, Option.toList_some, Option.toList_none, List.nil_append, List.cons_append, ↓reduceIte, reduceCtorEq, cl1_i, cl1_r, cl1_n, cl1_0, cl1_J, okS_0, okS_1, okS_2, okS_3, okS_4, bB_0, bB_and, z_0, z_1, z_10, bB_t, bB_f, Bool.true_eq_false, Bool.false_eq_true, gT0, gT1, gT2, gT3, gT4, gT5, gT6, gF0, gF1, gF2, gF3, gF4, gS0, gS1, gC0, gC1, iT, iF, iS, iC, sT6_0, sT6_1, sF2, sF3, sF4_0, sF4_1, sS1, sC1, iW]
  rw [c46 (by simp; omega)]
  simp only [s48_0, s48_0n, s48_1, s48_2, s48_5, s48_5n, s48_6, s48_7, s48_10, s48_10n, s48_11, s48_12, s48_15, Option.bind_some, Option.bind_none, Option.toList_some, Option.toList_none, List.nil_append, List.cons_append, ↓reduceIte, reduceCtorEq, cl1_i, cl1_r, cl1_n, cl1_0, cl1_J, okS_0, okS_1, okS_2, okS_3, okS_4, bB_0, bB_and, z_0, z_1, z_10, bB_t, bB_f, Bool.true_eq_false, Bool.false_eq_true, gT0, gT1, gT2, gT3, gT4, gT5, gT6, gF0, gF1, gF2, gF3, gF4, gS0, gS1, gC0, gC1, iT, iF, iS, iC, sT6_0, sT6_1, sF2, sF3, sF4_0, sF4_1, sS1, sC1, iW]
  rw [c46 (by simp; omega)]
  simp only [s48_0, s48_0n, s48_1, s48_2, s48_5, s48_5n, s48_6, s48_7, s48_10, s48_10n, s48_11, s48_12, s48_15, Option.bind_some, Option.bind_none, Option.toList_some, Option.toList_none, List.nil_append, List.cons_append, ↓reduceIte, reduceCtorEq, cl1_i, cl1_r, cl1_n, cl1_0, cl1_J, okS_0, okS_1, okS_2, okS_3, okS_4, bB_0, bB_and, z_0, z_1, z_10, bB_t, bB_f, Bool.true_eq_false, Bool.false_eq_true, gT0, gT1, gT2, gT3, gT4, gT5, gT6, gF0, gF1, gF2, gF3, gF4, gS0, gS1, gC0, gC1, iT, iF, iS, iC, sT6_0, sT6_1, sF2, sF3, sF4_0, sF4_1, sS1, sC1, iW, List.append_assoc]
theorem c49 {a : Int32} (hb : bs.length + 2 ≤ 64) : RunM 49 [.ref (aw w), .int a] (hw w sc F (opf j bs) o2 th be qu mo li mm) = some (none, hw w sc F (opf j (bs ++ [3, a])) o2 th be qu mo li mm) := by
  simp only [e49, s49_0, s49_0n, s49_1, s49_2, s49_5, s49_5n, s49_6, s49_7, s49_10, Option.bind_some, Option.bind_none, Option.toList_some, Option.toList_none, List.nil_append, List.cons_append, ↓reduceIte, reduceCtorEq, cl1_i, cl1_r, cl1_n, cl1_0, cl1_J, okS_0, okS_1, okS_2, okS_3, okS_4, bB_0, bB_and, z_0, z_1, z_10, bB_t, bB_f, Bool.true_eq_false, Bool.false_eq_true, gT0, gT1, gT2, gT3, gT4, gT5, gT6, gF0, gF1, gF2, gF3, gF4, gS0, gS1, gC0, gC1, iT, iF, iS, iC, sT6_0, sT6_1, sF2, sF3, sF4_0, sF4_1, sS1, sC1, iW]
  rw [c46 (by omega)]
  simp only [s49_0, s49_0n, s49_1, s49_2, s49_5, s49_5n, s49_6, s49_7, s49_10, Option.bind_some, Option.bind_none, Option.toList_some, Option.toList_none, List.nil_append, List.cons_append, ↓reduceIte, reduceCtorEq, cl1_i, cl1_r, cl1_n, cl1_0, cl1_J, okS_0, okS_1, okS_2, okS_3, okS_4, bB_0, bB_and, z_0, z_1, z_10, bB_t, bB_f, Bool.true_eq_false, Bool.false_eq_true, gT0, gT1, gT2, gT3, gT4, gT5, gT6, gF0, gF1, gF2, gF3, gF4, gS0, gS1, gC0, gC1, iT, iF, iS, iC, sT6_0, sT6_1, sF2, sF3, sF4_0, sF4_1, sS1, sC1, iW]
  rw [c46 (by simp; omega)]
  simp only [s49_0, s49_0n, s49_1, s49_2, s49_5, s49_5n, s49_6, s49_7, s49_10, Option.bind_some, Option.bind_none, Option.toList_some, Option.toList_none, List.nil_append, List.cons_append, ↓reduceIte, reduceCtorEq, cl1_i, cl1_r, cl1_n, cl1_0, cl1_J, okS_0, okS_1, okS_2, okS_3, okS_4, bB_0, bB_and, z_0, z_1, z_10, bB_t, bB_f, Bool.true_eq_false, Bool.false_eq_true, gT0, gT1, gT2, gT3, gT4, gT5, gT6, gF0, gF1, gF2, gF3, gF4, gS0, gS1, gC0, gC1, iT, iF, iS, iC, sT6_0, sT6_1, sF2, sF3, sF4_0, sF4_1, sS1, sC1, iW, List.append_assoc]
theorem c50 {a b : Int32} (hb : bs.length + 3 ≤ 64) : RunM 50 [.ref (aw w), .int a, .int b] (hw w sc F (opf j bs) o2 th be qu mo li mm) = some (none, hw w sc F (opf j (bs ++ [4, a, b])) o2 th be qu mo li mm) := by
  simp only [e50, s50_0, s50_0n, s50_1, s50_2, s50_5, s50_5n, s50_6, s50_7, s50_10, s50_10n, s50_11, s50_12, s50_15, Option.bind_some, Option.bind_none, Option.toList_some, Option.toList_none, List.nil_append, List.cons_append, ↓reduceIte, reduceCtorEq, cl1_i, cl1_r, cl1_n, cl1_0, cl1_J, okS_0, okS_1, okS_2, okS_3, okS_4, bB_0, bB_and, z_0, z_1, z_10, bB_t, bB_f, Bool.true_eq_false, Bool.false_eq_true, gT0, gT1, gT2, gT3, gT4, gT5, gT6, gF0, gF1, gF2, gF3, gF4, gS0, gS1, gC0, gC1, iT, iF, iS, iC, sT6_0, sT6_1, sF2, sF3, sF4_0, sF4_1, sS1, sC1, iW]
  rw [c46 (by omega)]
  simp only [s50_0, s50_0n, s50_1, s50_2, s50_5, s50_5n, s50_6, s50_7, s50_10, s50_10n, s50_11, s50_12, s50_15, Option.bind_some, Option.bind_none, Option.toList_some, Option.toList_none, List.nil_append, List.cons_append, ↓reduceIte, reduceCtorEq, cl1_i, cl1_r, cl1_n, cl1_0, cl1_J, okS_0, okS_1, okS_2, okS_3, okS_4, bB_0, bB_and, z_0, z_1, z_10, bB_t, bB_f, Bool.true_eq_false, Bool.false_eq_true, gT0, gT1, gT2, gT3, gT4, gT5, gT6, gF0, gF1, gF2, gF3, gF4, gS0, gS1, gC0, gC1, iT, iF, iS, iC, sT6_0, sT6_1, sF2, sF3, sF4_0, sF4_1, sS1, sC1, iW]
  rw [c46 (by simp; omega)]
  simp only [s50_0, s50_0n, s50_1, s50_2, s50_5, s50_5n, s50_6, s50_7, s50_10, s50_10n, s50_11, s50_12, s50_15, Option.bind_some, Option.bind_none, Option.toList_some, Option.toList_none, List.nil_append, List.cons_append, ↓reduceIte, reduceCtorEq, cl1_i, cl1_r, cl1_n, cl1_0, cl1_J, okS_0, okS_1, okS_2, okS_3, okS_4, bB_0, bB_and, z_0, z_1, z_10, bB_t, bB_f, Bool.true_eq_false, Bool.false_eq_true, gT0, gT1, gT2, gT3, gT4, gT5, gT6, gF0, gF1, gF2, gF3, gF4, gS0, gS1, gC0, gC1, iT, iF, iS, iC, sT6_0, sT6_1, sF2, sF3, sF4_0, sF4_1, sS1, sC1, iW]
  rw [c46 (by simp; omega)]
  simp only [s50_0, s50_0n, s50_1, s50_2, s50_5, s50_5n, s50_6, s50_7, s50_10, s50_10n, s50_11, s50_12, s50_15, Option.bind_some, Option.bind_none, Option.toList_some, Option.toList_none, List.nil_append, List.cons_append, ↓reduceIte, reduceCtorEq, cl1_i, cl1_r, cl1_n, cl1_0, cl1_J, okS_0, okS_1, okS_2, okS_3, okS_4, bB_0, bB_and, z_0, z_1, z_10, bB_t, bB_f, Bool.true_eq_false, Bool.false_eq_true, gT0, gT1, gT2, gT3, gT4, gT5, gT6, gF0, gF1, gF2, gF3, gF4, gS0, gS1, gC0, gC1, iT, iF, iS, iC, sT6_0, sT6_1, sF2, sF3, sF4_0, sF4_1, sS1, sC1, iW, List.append_assoc]
theorem c51 (hb : bs.length + 1 ≤ 64) : RunM 51 [.ref (aw w)] (hw w sc F (opf j bs) o2 th be qu mo li mm) = some (none, hw w sc F (opf j (bs ++ [5])) o2 th be qu mo li mm) := by
  simp only [e51, s51_0, s51_0n, s51_1, s51_2, s51_5, Option.bind_some, Option.bind_none, Option.toList_some, Option.toList_none, List.nil_append, List.cons_append, ↓reduceIte, reduceCtorEq, cl1_i, cl1_r, cl1_n, cl1_0, cl1_J, okS_0, okS_1, okS_2, okS_3, okS_4, bB_0, bB_and, z_0, z_1, z_10, bB_t, bB_f, Bool.true_eq_false, Bool.false_eq_true, gT0, gT1, gT2, gT3, gT4, gT5, gT6, gF0, gF1, gF2, gF3, gF4, gS0, gS1, gC0, gC1, iT, iF, iS, iC, sT6_0, sT6_1, sF2, sF3, sF4_0, sF4_1, sS1, sC1, iW]
  rw [c46 (by omega)]
  simp only [s51_0, s51_0n, s51_1, s51_2, s51_5, Option.bind_some, Option.bind_none, Option.toList_some, Option.toList_none, List.nil_append, List.cons_append, ↓reduceIte, reduceCtorEq, cl1_i, cl1_r, cl1_n, cl1_0, cl1_J, okS_0, okS_1, okS_2, okS_3, okS_4, bB_0, bB_and, z_0, z_1, z_10, bB_t, bB_f, Bool.true_eq_false, Bool.false_eq_true, gT0, gT1, gT2, gT3, gT4, gT5, gT6, gF0, gF1, gF2, gF3, gF4, gS0, gS1, gC0, gC1, iT, iF, iS, iC, sT6_0, sT6_1, sF2, sF3, sF4_0, sF4_1, sS1, sC1, iW]
/-- byte i of a long -/
def byJ (x : Int64) (i : Nat) : Int32 := (x.toUInt64 >>> ((8 * nI i).toInt64.toUInt64 &&& Int64.toUInt64 63)).toInt64.toInt32 &&& 255
def byL (x : Int64) (n : Nat) : List Int32 := (List.range n).map (byJ x)
theorem byL_succ (x : Int64) (n : Nat) : byL x (n + 1) = byL x n ++ [byJ x n] := by simp [byL, List.range_succ]
theorem byL_len (x : Int64) (n : Nat) : (byL x n).length = n := by simp [byL]
theorem c47_loop {a : Int32} {n : Nat} {x : Int64} (hn : n ≤ 6) : ∀ (d i : Nat) (bs : List Int32), i + d = n → bs.length + d ≤ 64 → Run 47 18 [some (.ref (aw w)), some (.int a), some (.int (nI n)), some (.long x), none, some (.int (nI i))] [] (hw w sc F (opf j bs) o2 th be qu mo li mm) = some (none, hw w sc F (opf j (bs ++ ((List.range' i d).map (byJ x)))) o2 th be qu mo li mm) := by
  intro d
  induction d with
  | zero =>
    intro i bs h1 h2
    have h3 : ¬ nI i < nI n := nI_nlt (by omega) (by omega)
    simp only [s47_0, s47_0n, s47_1, s47_2, s47_5, s47_5n, s47_6, s47_7, s47_10, s47_10n, s47_11, s47_12, s47_15, s47_16, s47_18, s47_20, s47_21, s47_24, s47_26, s47_28, s47_31, s47_31n, s47_32, s47_33, s47_35, s47_37, s47_38, s47_39, s47_40, s47_43, s47_44, s47_47, s47_50, s47_53, Option.bind_some, Option.bind_none, Option.toList_some, Option.toList_none, List.nil_append, List.cons_append, ↓reduceIte, reduceCtorEq, cl1_i, cl1_r, cl1_n, cl1_0, cl1_J, okS_0, okS_1, okS_2, okS_3, okS_4, bB_0, bB_and, z_0, z_1, z_10, bB_t, bB_f, Bool.true_eq_false, Bool.false_eq_true, gT0, gT1, gT2, gT3, gT4, gT5, gT6, gF0, gF1, gF2, gF3, gF4, gS0, gS1, gC0, gC1, iT, iF, iS, iC, sT6_0, sT6_1, sF2, sF3, sF4_0, sF4_1, sS1, sC1, h3]
    simp
  | succ d ih =>
    intro i bs h1 h2
    have h3 : nI i < nI n := nI_lt (by omega) (by omega)
    have h4 : nI i < 6 := nI_lit (k := 6) (by omega) (by decide)
    simp only [s47_18, s47_20, s47_21, s47_24, s47_26, s47_28, s47_31, s47_31n, s47_32, s47_33, s47_35, s47_37, s47_38, s47_39, s47_40, s47_43, s47_44, Option.bind_some, Option.bind_none, Option.toList_some, Option.toList_none, List.nil_append, List.cons_append, ↓reduceIte, reduceCtorEq, cl1_i, cl1_r, cl1_n, cl1_0, cl1_J, okS_0, okS_1, okS_2, okS_3, okS_4, bB_0, bB_and, z_0, z_1, z_10, bB_t, bB_f, Bool.true_eq_false, Bool.false_eq_true, gT0, gT1, gT2, gT3, gT4, gT5, gT6, gF0, gF1, gF2, gF3, gF4, gS0, gS1, gC0, gC1, iT, iF, iS, iC, sT6_0, sT6_1, sF2, sF3, sF4_0, sF4_1, sS1, sC1, h3, h4, iW]
    rw [c46 (by omega)]
    simp only [s47_47, s47_50, Option.bind_some, Option.bind_none, Option.toList_some, Option.toList_none, List.nil_append, List.cons_append, ↓reduceIte, reduceCtorEq, cl1_i, cl1_r, cl1_n, cl1_0, cl1_J, okS_0, okS_1, okS_2, okS_3, okS_4, bB_0, bB_and, z_0, z_1, z_10, bB_t, bB_f, Bool.true_eq_false, Bool.false_eq_true, gT0, gT1, gT2, gT3, gT4, gT5, gT6, gF0, gF1, gF2, gF3, gF4, gS0, gS1, gC0, gC1, iT, iF, iS, iC, sT6_0, sT6_1, sF2, sF3, sF4_0, sF4_1, sS1, sC1, nI_1]
    rw [ih (i + 1) _ (by omega) (by simp; omega)]
    simp [List.range'_succ, byJ]
theorem c47 {a : Int32} {n : Nat} {x : Int64} (hn : n ≤ 6) (hb : bs.length + (3 + n) ≤ 64) : RunM 47 [.ref (aw w), .int a, .int (nI n), .long x] (hw w sc F (opf j bs) o2 th be qu mo li mm) = some (none, hw w sc F (opf j (bs ++ (1 :: a :: nI n :: byL x n))) o2 th be qu mo li mm) := by
  simp only [e47, s47_0, s47_0n, s47_1, s47_2, s47_5, s47_5n, s47_6, s47_7, s47_10, s47_10n, s47_11, s47_12, s47_15, s47_16, Option.bind_some, Option.bind_none, Option.toList_some, Option.toList_none, List.nil_append, List.cons_append, ↓reduceIte, reduceCtorEq, cl1_i, cl1_r, cl1_n, cl1_0, cl1_J, okS_0, okS_1, okS_2, okS_3, okS_4, bB_0, bB_and, z_0, z_1, z_10, bB_t, bB_f, Bool.true_eq_false, Bool.false_eq_true, gT0, gT1, gT2, gT3, gT4, gT5, gT6, gF0, gF1, gF2, gF3, gF4, gS0, gS1, gC0, gC1, iT, iF, iS, iC, sT6_0, sT6_1, sF2, sF3, sF4_0, sF4_1, sS1, sC1, iW]
  rw [c46 (by omega)]
  simp only [s47_0, s47_0n, s47_1, s47_2, s47_5, s47_5n, s47_6, s47_7, s47_10, s47_10n, s47_11, s47_12, s47_15, s47_16, Option.bind_some, Option.bind_none, Option.toList_some, Option.toList_none, List.nil_append, List.cons_append, ↓reduceIte, reduceCtorEq, cl1_i, cl1_r, cl1_n, cl1_0, cl1_J, okS_0, okS_1, okS_2, okS_3, okS_4, bB_0, bB_and, z_0, z_1, z_10, bB_t, bB_f, Bool.true_eq_false, Bool.false_eq_true, gT0, gT1, gT2, gT3, gT4, gT5, gT6, gF0, gF1, gF2, gF3, gF4, gS0, gS1, gC0, gC1, iT, iF, iS, iC, sT6_0, sT6_1, sF2, sF3, sF4_0, sF4_1, sS1, sC1, iW]
  rw [c46 (by simp; omega)]
  simp only [s47_0, s47_0n, s47_1, s47_2, s47_5, s47_5n, s47_6, s47_7, s47_10, s47_10n, s47_11, s47_12, s47_15, s47_16, Option.bind_some, Option.bind_none, Option.toList_some, Option.toList_none, List.nil_append, List.cons_append, ↓reduceIte, reduceCtorEq, cl1_i, cl1_r, cl1_n, cl1_0, cl1_J, okS_0, okS_1, okS_2, okS_3, okS_4, bB_0, bB_and, z_0, z_1, z_10, bB_t, bB_f, Bool.true_eq_false, Bool.false_eq_true, gT0, gT1, gT2, gT3, gT4, gT5, gT6, gF0, gF1, gF2, gF3, gF4, gS0, gS1, gC0, gC1, iT, iF, iS, iC, sT6_0, sT6_1, sF2, sF3, sF4_0, sF4_1, sS1, sC1, iW]
  rw [c46 (by simp; omega)]
  simp only [s47_0, s47_0n, s47_1, s47_2, s47_5, s47_5n, s47_6, s47_7, s47_10, s47_10n, s47_11, s47_12, s47_15, s47_16, Option.bind_some, Option.bind_none, Option.toList_some, Option.toList_none, List.nil_append, List.cons_append, ↓reduceIte, reduceCtorEq, cl1_i, cl1_r, cl1_n, cl1_0, cl1_J, okS_0, okS_1, okS_2, okS_3, okS_4, bB_0, bB_and, z_0, z_1, z_10, bB_t, bB_f, Bool.true_eq_false, Bool.false_eq_true, gT0, gT1, gT2, gT3, gT4, gT5, gT6, gF0, gF1, gF2, gF3, gF4, gS0, gS1, gC0, gC1, iT, iF, iS, iC, sT6_0, sT6_1, sF2, sF3, sF4_0, sF4_1, sS1, sC1, iW]
  have := c47_loop (w := w) (sc := sc) (F := F) (o2 := o2) (th := th) (be := be) (qu := qu) (mo := mo) (li := li) (mm := mm) (j := j) (a := a) (x := x) hn n 0 (bs ++ [1] ++ [a] ++ [nI n]) (by omega) (by simp; omega)
  rw [nI_0] at this
  rw [this]
  simp [byL, List.range_eq_range']
end OPS
section OPS2
variable {sc : AC} {F : FlS} {o o2 : OpS} {th be qu : Nat → Int32} {mo : Int32} {li : Nat → LiS} {mm : AH} {w : Bool} {j : Nat → Int32} {bs : List Int32}
/-- the number that n bytes from place i on make, the first the lowest -/
def ctO (bs : List Int32) (i : Nat) : Nat → Int64
  | 0 => 0
  | n + 1 => ctO bs i n ||| ((bs.getD (i + n) 0).toInt64 <<< ((8 * nI n).toInt64 &&& 63))
theorem c52_loop {i n : Nat} (hn : n ≤ 6) (hi : i < 1000) (hb : bs.length ≤ 64) : ∀ (d k : Nat), k + d = n → Run 52 5 [some (.ref (aw w)), some (.int (nI i)), some (.int (nI n)), some (.long (ctO bs i k)), none, some (.int (nI k))] [] (hw w sc F (opf j bs) o2 th be qu mo li mm) = some (some (.long (ctO bs i n)), hw w sc F (opf j bs) o2 th be qu mo li mm) := by
  intro d
  induction d with
  | zero =>
    intro k h1
    have h3 : ¬ nI k < nI n := nI_nlt (by omega) (by omega)
    obtain rfl : k = n := by omega
    simp only [s52_5, s52_7, s52_8, s52_11, s52_42, s52_43, Option.bind_some, Option.bind_none, Option.toList_some, Option.toList_none, List.nil_append, List.cons_append, ↓reduceIte, reduceCtorEq, cl1_i, cl1_r, cl1_n, cl1_0, cl1_J, okS_0, okS_1, okS_2, okS_3, okS_4, bB_0, bB_and, z_0, z_1, z_10, bB_t, bB_f, Bool.true_eq_false, Bool.false_eq_true, gT0, gT1, gT2, gT3, gT4, gT5, gT6, gF0, gF1, gF2, gF3, gF4, gS0, gS1, gC0, gC1, iT, iF, iS, iC, sT6_0, sT6_1, sF2, sF3, sF4_0, sF4_1, sS1, sC1, h3]
  | succ d ih =>
    intro k h1
    have h3 : nI k < nI n := nI_lt (by omega) (by omega)
    have h4 : nI k < 6 := nI_lit (k := 6) (by omega) (by decide)
    simp only [s52_5, s52_7, s52_8, s52_11, s52_13, s52_15, s52_18, s52_19, s52_19n, s52_20, s52_21, s52_23, s52_24, Option.bind_some, Option.bind_none, Option.toList_some, Option.toList_none, List.nil_append, List.cons_append, ↓reduceIte, reduceCtorEq, cl1_i, cl1_r, cl1_n, cl1_0, cl1_J, okS_0, okS_1, okS_2, okS_3, okS_4, bB_0, bB_and, z_0, z_1, z_10, bB_t, bB_f, Bool.true_eq_false, Bool.false_eq_true, gT0, gT1, gT2, gT3, gT4, gT5, gT6, gF0, gF1, gF2, gF3, gF4, gS0, gS1, gC0, gC1, iT, iF, iS, iC, sT6_0, sT6_1, sF2, sF3, sF4_0, sF4_1, sS1, sC1, h3, h4, iW, nI_add]
    rw [c45 (by omega) hb]
    simp only [s52_27, s52_28, s52_30, s52_32, s52_33, s52_34, s52_35, s52_36, s52_39, Option.bind_some, Option.bind_none, Option.toList_some, Option.toList_none, List.nil_append, List.cons_append, ↓reduceIte, reduceCtorEq, cl1_i, cl1_r, cl1_n, cl1_0, cl1_J, okS_0, okS_1, okS_2, okS_3, okS_4, bB_0, bB_and, z_0, z_1, z_10, bB_t, bB_f, Bool.true_eq_false, Bool.false_eq_true, gT0, gT1, gT2, gT3, gT4, gT5, gT6, gF0, gF1, gF2, gF3, gF4, gS0, gS1, gC0, gC1, iT, iF, iS, iC, sT6_0, sT6_1, sF2, sF3, sF4_0, sF4_1, sS1, sC1, nI_1]
    exact ih (k + 1) (by omega)
theorem c52 {i n : Nat} (hn : n ≤ 6) (hi : i < 1000) (hb : bs.length ≤ 64) : RunM 52 [.ref (aw w), .int (nI i), .int (nI n)] (hw w sc F (opf j bs) o2 th be qu mo li mm) = some (some (.long (ctO bs i n)), hw w sc F (opf j bs) o2 th be qu mo li mm) := by
  simp only [e52, s52_0, s52_1, s52_2, s52_3, Option.bind_some, Option.bind_none, Option.toList_some, Option.toList_none, List.nil_append, List.cons_append, ↓reduceIte, reduceCtorEq, cl1_i, cl1_r, cl1_n, cl1_0, cl1_J, okS_0, okS_1, okS_2, okS_3, okS_4, bB_0, bB_and, z_0, z_1, z_10, bB_t, bB_f, Bool.true_eq_false, Bool.false_eq_true, gT0, gT1, gT2, gT3, gT4, gT5, gT6, gF0, gF1, gF2, gF3, gF4, gS0, gS1, gC0, gC1, iT, iF, iS, iC, sT6_0, sT6_1, sF2, sF3, sF4_0, sF4_1, sS1, sC1]
  exact c52_loop hn hi hb n 0 (by omega)
end OPS2
