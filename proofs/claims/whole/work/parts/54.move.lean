/-! ===== rename: what it asks, what it commits ===== -/
def mvT (ts : List En) (en : En) (y : Int32) : Bool := match fiE ts y with
  | none => false
  | some t => decide (en.2.1 = 2) || isFo ts (nI t)
def mvV (Lo : LO) (q r : Nat) (en : En) (y : Int32) : Int32 := if mvT (lsO Lo r).1 en y = true then -2 else if fiE (lsO Lo r).1 y = none ∧ q ≠ r ∧ (lsO Lo r).1.length = 4 then -3 else if en.2.1 = 2 ∧ (froS (lsO Lo) en.2.2.1).testBit r = true then -6 else 0
section MVC
variable {sc : AC} {f : FB} {s c : OpS} {th be qu : Nat → Int32} {mo : Int32} {li : Nat → LiS} {mm : AH} {Lo : LO} {q r k : Nat} {en : En} {y : Int32}
theorem c85 {F : FlS} (hX : IX f Lo) (hA : LiA Lo li) {a : Nat} (ha : a < 8) (hr : r < 8) : ∃ be' qu', RunM 85 [.ref 1, .int (nI r), .int (nI a)] (hp sc (F) s c th be qu mo li mm) = some (some (.int (bB ((froS (lsO Lo) a).testBit r))), (hp sc (F) s c th (be') (qu') mo li mm)) := by
  obtain ⟨be', qu', r1, r2⟩ := c81a (sc := sc) (F := F) (s := s) (c := c) (th := th) (be := be) (qu := qu) (mo := mo) (mm := mm) ⟨f, hX⟩ hA ha
  refine ⟨be', qu', ?_⟩
  have hi : inB (nI r) 8 = true := inB_nI hr (by decide)
  simp only [e85, s85_0, s85_0n, s85_1, s85_2, s85_2n, s85_3, s85_6, Option.bind_some, Option.bind_none, Option.toList_some, Option.toList_none, List.nil_append, List.cons_append, ↓reduceIte, reduceCtorEq, cl1_i, cl1_r, cl1_n, cl1_0, cl1_J, okS_0, okS_1, okS_2, okS_3, okS_4, bB_0, bB_and, z_0, z_1, z_10, bB_t, bB_f, Bool.true_eq_false, Bool.false_eq_true, gT0, gT1, gT2, gT3, gT4, gT5, gT6, gF0, gF1, gF2, gF3, gF4, gS0, gS1, gC0, gC1, iT, iF, iS, iC, sT6_0, sT6_1, sF2, sF3, sF4_0, sF4_1, sS1, sC1, r1]
  simp only [s85_9, s85_10, s85_13, s85_16, s85_16n, s85_17, s85_20, s85_21, Option.bind_some, Option.bind_none, Option.toList_some, Option.toList_none, List.nil_append, List.cons_append, ↓reduceIte, reduceCtorEq, cl1_i, cl1_r, cl1_n, cl1_0, cl1_J, okS_0, okS_1, okS_2, okS_3, okS_4, bB_0, bB_and, z_0, z_1, z_10, bB_t, bB_f, Bool.true_eq_false, Bool.false_eq_true, gT0, gT1, gT2, gT3, gT4, gT5, gT6, gF0, gF1, gF2, gF3, gF4, gS0, gS1, gC0, gC1, iT, iF, iS, iC, sT6_0, sT6_1, sF2, sF3, sF4_0, sF4_1, sS1, sC1, c75, hi, a9 hi, nI_clamp (show r < 2 ^ 31 by omega), r2 r hr]
  cases hb : (froS (lsO Lo) a).testBit r with
  | true => simp only [s85_22, s85_25, s85_26, s85_29, s85_30, Option.bind_some, Option.bind_none, Option.toList_some, Option.toList_none, List.nil_append, List.cons_append, ↓reduceIte, reduceCtorEq, cl1_i, cl1_r, cl1_n, cl1_0, cl1_J, okS_0, okS_1, okS_2, okS_3, okS_4, bB_0, bB_and, z_0, z_1, z_10, bB_t, bB_f, Bool.true_eq_false, Bool.false_eq_true, gT0, gT1, gT2, gT3, gT4, gT5, gT6, gF0, gF1, gF2, gF3, gF4, gS0, gS1, gC0, gC1, iT, iF, iS, iC, sT6_0, sT6_1, sF2, sF3, sF4_0, sF4_1, sS1, sC1]
  | false => simp only [s85_22, s85_29, s85_30, Option.bind_some, Option.bind_none, Option.toList_some, Option.toList_none, List.nil_append, List.cons_append, ↓reduceIte, reduceCtorEq, cl1_i, cl1_r, cl1_n, cl1_0, cl1_J, okS_0, okS_1, okS_2, okS_3, okS_4, bB_0, bB_and, z_0, z_1, z_10, bB_t, bB_f, Bool.true_eq_false, Bool.false_eq_true, gT0, gT1, gT2, gT3, gT4, gT5, gT6, gF0, gF1, gF2, gF3, gF4, gS0, gS1, gC0, gC1, iT, iF, iS, iC, sT6_0, sT6_1, sF2, sF3, sF4_0, sF4_1, sS1, sC1]
theorem nI_eqq {a b : Nat} (ha : a < 8) (hb : b < 8) : (nI a = nI b) = (a = b) := by
  rw [nI_eq (by omega) (by omega)]
theorem c84 {F : FlS} (hX : IX f Lo) (hA : LiA Lo li) (hq : q < 8) (hr : r < 8) (he : (lsO Lo q).1[k]? = some en) : ∃ be' qu', RunM 84 [.ref 1, .ref (13 + 6 * q), .int (nI k), .ref (13 + 6 * r), .int y] (hp sc (F) s c th be qu mo li mm) = some (some (.int (mvV Lo q r en y)), (hp sc (F) s c th (be') (qu') mo li mm)) := by
  have hLq := hA q hq
  have hLr := hA r hr
  have hO := (hLq.2.2.1 k en he).2
  have hk : k < 2 ^ 31 := by have := (List.getElem?_eq_some_iff.mp he).1; have := hLq.1; omega
  have hea : eAt (lsO Lo q).1 (nI k) = some en := by rw [eAt_nI hLq.1 (List.getElem?_eq_some_iff.mp he).1, he]
  have start : RunM 84 [.ref 1, .ref (13 + 6 * q), .int (nI k), .ref (13 + 6 * r), .int y] (hp sc (F) s c th be qu mo li mm) = Run 84 23 [some (.ref 1), some (.ref (13 + 6 * q)), some (.int (nI k)), some (.ref (13 + 6 * r)), some (.int y), some (.int (bB (decide (en.2.1 = 2)))), some (.int (oI (fiE (lsO Lo r).1 y)))] [.int (oI (fiE (lsO Lo r).1 y))] (hp sc (F) s c th be qu mo li mm) := by
    simp only [e84, s84_0, s84_0n, s84_1, s84_4, s84_5, Option.bind_some, Option.bind_none, Option.toList_some, Option.toList_none, List.nil_append, List.cons_append, ↓reduceIte, reduceCtorEq, cl1_i, cl1_r, cl1_n, cl1_0, cl1_J, okS_0, okS_1, okS_2, okS_3, okS_4, bB_0, bB_and, z_0, z_1, z_10, bB_t, bB_f, Bool.true_eq_false, Bool.false_eq_true, gT0, gT1, gT2, gT3, gT4, gT5, gT6, gF0, gF1, gF2, gF3, gF4, gS0, gS1, gC0, gC1, iT, iF, iS, iC, sT6_0, sT6_1, sF2, sF3, sF4_0, sF4_1, sS1, sC1, gO0 hq, gO1 hq, gO2 hq, gO3 hq, gL0 hq, gL1 hq, gL2 hq, gL3 hq, gL4 hq, gL5 hq, gL6 hq, iO hq, iL hq, sL4 hq, sL5 hq, sL6 hq, c30 hq hLq, isFo_at hLq.1 he]
    simp only [s84_8, s84_10, s84_10n, s84_11, s84_14, s84_16, Option.bind_some, Option.bind_none, Option.toList_some, Option.toList_none, List.nil_append, List.cons_append, ↓reduceIte, reduceCtorEq, cl1_i, cl1_r, cl1_n, cl1_0, cl1_J, okS_0, okS_1, okS_2, okS_3, okS_4, bB_0, bB_and, z_0, z_1, z_10, bB_t, bB_f, Bool.true_eq_false, Bool.false_eq_true, gT0, gT1, gT2, gT3, gT4, gT5, gT6, gF0, gF1, gF2, gF3, gF4, gS0, gS1, gC0, gC1, iT, iF, iS, iC, sT6_0, sT6_1, sF2, sF3, sF4_0, sF4_1, sS1, sC1, gO0 hr, gO1 hr, gO2 hr, gO3 hr, gL0 hr, gL1 hr, gL2 hr, gL3 hr, gL4 hr, gL5 hr, gL6 hr, iO hr, iL hr, sL4 hr, sL5 hr, sL6 hr, c28 hr hLr]
    simp only [s84_19, s84_21, Option.bind_some, Option.bind_none, Option.toList_some, Option.toList_none, List.nil_append, List.cons_append, ↓reduceIte, reduceCtorEq, cl1_i, cl1_r, cl1_n, cl1_0, cl1_J, okS_0, okS_1, okS_2, okS_3, okS_4, bB_0, bB_and, z_0, z_1, z_10, bB_t, bB_f, Bool.true_eq_false, Bool.false_eq_true, gT0, gT1, gT2, gT3, gT4, gT5, gT6, gF0, gF1, gF2, gF3, gF4, gS0, gS1, gC0, gC1, iT, iF, iS, iC, sT6_0, sT6_1, sF2, sF3, sF4_0, sF4_1, sS1, sC1]
  -- the last question
  have last : ∀ z : Int32, ∃ be' qu', Run 84 77 [some (.ref 1), some (.ref (13 + 6 * q)), some (.int (nI k)), some (.ref (13 + 6 * r)), some (.int y), some (.int (bB (decide (en.2.1 = 2)))), some (.int z)] [] (hp sc (F) s c th be qu mo li mm) = some (some (.int (if en.2.1 = 2 ∧ (froS (lsO Lo) en.2.2.1).testBit r = true then -6 else 0)), (hp sc (F) s c th (be') (qu') mo li mm)) := by
    intro z
    rcases hO.2.2 with ⟨g, -⟩ | ⟨g, g8, -⟩
    · have g2 : ¬ en.2.1 = 2 := by omega
      refine ⟨be, qu, ?_⟩
      simp only [s84_77, s84_79, s84_104, s84_105, Option.bind_some, Option.bind_none, Option.toList_some, Option.toList_none, List.nil_append, List.cons_append, ↓reduceIte, reduceCtorEq, cl1_i, cl1_r, cl1_n, cl1_0, cl1_J, okS_0, okS_1, okS_2, okS_3, okS_4, bB_0, bB_and, z_0, z_1, z_10, bB_t, bB_f, Bool.true_eq_false, Bool.false_eq_true, gT0, gT1, gT2, gT3, gT4, gT5, gT6, gF0, gF1, gF2, gF3, gF4, gS0, gS1, gC0, gC1, iT, iF, iS, iC, sT6_0, sT6_1, sF2, sF3, sF4_0, sF4_1, sS1, sC1, g2, decide_false, false_and]
    · obtain ⟨be', qu', r1⟩ := c85 (sc := sc) (F := F) (s := s) (c := c) (th := th) (be := be) (qu := qu) (mo := mo) (mm := mm) hX hA g8 hr
      refine ⟨be', qu', ?_⟩
      have hpr : enPr en = nI en.2.2.1 := by unfold enPr; rw [if_pos g]
      simp only [s84_77, s84_79, s84_82, s84_82n, s84_83, s84_83n, s84_84, s84_87, s84_87n, s84_88, s84_91, Option.bind_some, Option.bind_none, Option.toList_some, Option.toList_none, List.nil_append, List.cons_append, ↓reduceIte, reduceCtorEq, cl1_i, cl1_r, cl1_n, cl1_0, cl1_J, okS_0, okS_1, okS_2, okS_3, okS_4, bB_0, bB_and, z_0, z_1, z_10, bB_t, bB_f, Bool.true_eq_false, Bool.false_eq_true, gT0, gT1, gT2, gT3, gT4, gT5, gT6, gF0, gF1, gF2, gF3, gF4, gS0, gS1, gC0, gC1, iT, iF, iS, iC, sT6_0, sT6_1, sF2, sF3, sF4_0, sF4_1, sS1, sC1, gO0 hr, gO1 hr, gO2 hr, gO3 hr, gL0 hr, gL1 hr, gL2 hr, gL3 hr, gL4 hr, gL5 hr, gL6 hr, iO hr, iL hr, sL4 hr, sL5 hr, sL6 hr, gO0 hq, gO1 hq, gO2 hq, gO3 hq, gL0 hq, gL1 hq, gL2 hq, gL3 hq, gL4 hq, gL5 hq, gL6 hq, iO hq, iL hq, sL4 hq, sL5 hq, sL6 hq, g, decide_true]
      simp only [s84_92, Option.bind_some, Option.bind_none, Option.toList_some, Option.toList_none, List.nil_append, List.cons_append, ↓reduceIte, reduceCtorEq, cl1_i, cl1_r, cl1_n, cl1_0, cl1_J, okS_0, okS_1, okS_2, okS_3, okS_4, bB_0, bB_and, z_0, z_1, z_10, bB_t, bB_f, Bool.true_eq_false, Bool.false_eq_true, gT0, gT1, gT2, gT3, gT4, gT5, gT6, gF0, gF1, gF2, gF3, gF4, gS0, gS1, gC0, gC1, iT, iF, iS, iC, sT6_0, sT6_1, sF2, sF3, sF4_0, sF4_1, sS1, sC1, gO0 hq, gO1 hq, gO2 hq, gO3 hq, gL0 hq, gL1 hq, gL2 hq, gL3 hq, gL4 hq, gL5 hq, gL6 hq, iO hq, iL hq, sL4 hq, sL5 hq, sL6 hq, c32 hq hLq, hea, Option.elim, hpr]
      simp only [s84_95, Option.bind_some, Option.bind_none, Option.toList_some, Option.toList_none, List.nil_append, List.cons_append, ↓reduceIte, reduceCtorEq, cl1_i, cl1_r, cl1_n, cl1_0, cl1_J, okS_0, okS_1, okS_2, okS_3, okS_4, bB_0, bB_and, z_0, z_1, z_10, bB_t, bB_f, Bool.true_eq_false, Bool.false_eq_true, gT0, gT1, gT2, gT3, gT4, gT5, gT6, gF0, gF1, gF2, gF3, gF4, gS0, gS1, gC0, gC1, iT, iF, iS, iC, sT6_0, sT6_1, sF2, sF3, sF4_0, sF4_1, sS1, sC1, r1, true_and]
      cases hb : (froS (lsO Lo) en.2.2.1).testBit r with
      | true => simp only [s84_98, s84_101, s84_103, Option.bind_some, Option.bind_none, Option.toList_some, Option.toList_none, List.nil_append, List.cons_append, ↓reduceIte, reduceCtorEq, cl1_i, cl1_r, cl1_n, cl1_0, cl1_J, okS_0, okS_1, okS_2, okS_3, okS_4, bB_0, bB_and, z_0, z_1, z_10, bB_t, bB_f, Bool.true_eq_false, Bool.false_eq_true, gT0, gT1, gT2, gT3, gT4, gT5, gT6, gF0, gF1, gF2, gF3, gF4, gS0, gS1, gC0, gC1, iT, iF, iS, iC, sT6_0, sT6_1, sF2, sF3, sF4_0, sF4_1, sS1, sC1]
      | false => simp only [s84_98, s84_104, s84_105, Option.bind_some, Option.bind_none, Option.toList_some, Option.toList_none, List.nil_append, List.cons_append, ↓reduceIte, reduceCtorEq, cl1_i, cl1_r, cl1_n, cl1_0, cl1_J, okS_0, okS_1, okS_2, okS_3, okS_4, bB_0, bB_and, z_0, z_1, z_10, bB_t, bB_f, Bool.true_eq_false, Bool.false_eq_true, gT0, gT1, gT2, gT3, gT4, gT5, gT6, gF0, gF1, gF2, gF3, gF4, gS0, gS1, gC0, gC1, iT, iF, iS, iC, sT6_0, sT6_1, sF2, sF3, sF4_0, sF4_1, sS1, sC1]
  unfold mvV mvT
  cases hf : fiE (lsO Lo r).1 y with
  | none =>
    rw [hf, oI_n] at start
    by_cases hqr : q = r
    · subst hqr
      obtain ⟨be', qu', l1⟩ := last (-1)
      refine ⟨be', qu', ?_⟩
      rw [start, if_neg (show ¬ false = true by decide), if_neg (fun h => h.2.1 rfl), ← l1]
      simp only [s84_23, s84_24, s84_47, s84_49, s84_50, s84_53, s84_53n, s84_54, s84_57, s84_57n, s84_58, s84_61, Option.bind_some, Option.bind_none, Option.toList_some, Option.toList_none, List.nil_append, List.cons_append, ↓reduceIte, reduceCtorEq, cl1_i, cl1_r, cl1_n, cl1_0, cl1_J, okS_0, okS_1, okS_2, okS_3, okS_4, bB_0, bB_and, z_0, z_1, z_10, bB_t, bB_f, Bool.true_eq_false, Bool.false_eq_true, gT0, gT1, gT2, gT3, gT4, gT5, gT6, gF0, gF1, gF2, gF3, gF4, gS0, gS1, gC0, gC1, iT, iF, iS, iC, sT6_0, sT6_1, sF2, sF3, sF4_0, sF4_1, sS1, sC1, gO0 hq, gO1 hq, gO2 hq, gO3 hq, gL0 hq, gL1 hq, gL2 hq, gL3 hq, gL4 hq, gL5 hq, gL6 hq, iO hq, iL hq, sL4 hq, sL5 hq, sL6 hq, m1m1]
    · have hne : ¬ nI q = nI r := fun h => hqr ((nI_eq (by omega) (by omega)).mp h)
      by_cases h4 : (lsO Lo r).1.length = 4
      · refine ⟨be, qu, ?_⟩
        rw [start, if_neg (show ¬ false = true by decide), if_pos ⟨rfl, hqr, h4⟩]
        simp only [s84_23, s84_24, s84_47, s84_49, s84_50, s84_53, s84_53n, s84_54, s84_57, s84_57n, s84_58, Option.bind_some, Option.bind_none, Option.toList_some, Option.toList_none, List.nil_append, List.cons_append, ↓reduceIte, reduceCtorEq, cl1_i, cl1_r, cl1_n, cl1_0, cl1_J, okS_0, okS_1, okS_2, okS_3, okS_4, bB_0, bB_and, z_0, z_1, z_10, bB_t, bB_f, Bool.true_eq_false, Bool.false_eq_true, gT0, gT1, gT2, gT3, gT4, gT5, gT6, gF0, gF1, gF2, gF3, gF4, gS0, gS1, gC0, gC1, iT, iF, iS, iC, sT6_0, sT6_1, sF2, sF3, sF4_0, sF4_1, sS1, sC1, gO0 hq, gO1 hq, gO2 hq, gO3 hq, gL0 hq, gL1 hq, gL2 hq, gL3 hq, gL4 hq, gL5 hq, gL6 hq, iO hq, iL hq, sL4 hq, sL5 hq, sL6 hq, m1m1]
        simp only [s84_61, s84_64, s84_64n, s84_65, s84_68, s84_71, s84_74, s84_76, Option.bind_some, Option.bind_none, Option.toList_some, Option.toList_none, List.nil_append, List.cons_append, ↓reduceIte, reduceCtorEq, cl1_i, cl1_r, cl1_n, cl1_0, cl1_J, okS_0, okS_1, okS_2, okS_3, okS_4, bB_0, bB_and, z_0, z_1, z_10, bB_t, bB_f, Bool.true_eq_false, Bool.false_eq_true, gT0, gT1, gT2, gT3, gT4, gT5, gT6, gF0, gF1, gF2, gF3, gF4, gS0, gS1, gC0, gC1, iT, iF, iS, iC, sT6_0, sT6_1, sF2, sF3, sF4_0, sF4_1, sS1, sC1, gO0 hr, gO1 hr, gO2 hr, gO3 hr, gL0 hr, gL1 hr, gL2 hr, gL3 hr, gL4 hr, gL5 hr, gL6 hr, iO hr, iL hr, sL4 hr, sL5 hr, sL6 hr, hne, c26 hr hLr, h4, decide_true]
      · obtain ⟨be', qu', l1⟩ := last (-1)
        refine ⟨be', qu', ?_⟩
        rw [start, if_neg (show ¬ false = true by decide), if_neg (fun h => h4 h.2.2), ← l1]
        simp only [s84_23, s84_24, s84_47, s84_49, s84_50, s84_53, s84_53n, s84_54, s84_57, s84_57n, s84_58, Option.bind_some, Option.bind_none, Option.toList_some, Option.toList_none, List.nil_append, List.cons_append, ↓reduceIte, reduceCtorEq, cl1_i, cl1_r, cl1_n, cl1_0, cl1_J, okS_0, okS_1, okS_2, okS_3, okS_4, bB_0, bB_and, z_0, z_1, z_10, bB_t, bB_f, Bool.true_eq_false, Bool.false_eq_true, gT0, gT1, gT2, gT3, gT4, gT5, gT6, gF0, gF1, gF2, gF3, gF4, gS0, gS1, gC0, gC1, iT, iF, iS, iC, sT6_0, sT6_1, sF2, sF3, sF4_0, sF4_1, sS1, sC1, gO0 hq, gO1 hq, gO2 hq, gO3 hq, gL0 hq, gL1 hq, gL2 hq, gL3 hq, gL4 hq, gL5 hq, gL6 hq, iO hq, iL hq, sL4 hq, sL5 hq, sL6 hq, m1m1]
        simp only [s84_61, s84_64, s84_64n, s84_65, s84_68, s84_71, Option.bind_some, Option.bind_none, Option.toList_some, Option.toList_none, List.nil_append, List.cons_append, ↓reduceIte, reduceCtorEq, cl1_i, cl1_r, cl1_n, cl1_0, cl1_J, okS_0, okS_1, okS_2, okS_3, okS_4, bB_0, bB_and, z_0, z_1, z_10, bB_t, bB_f, Bool.true_eq_false, Bool.false_eq_true, gT0, gT1, gT2, gT3, gT4, gT5, gT6, gF0, gF1, gF2, gF3, gF4, gS0, gS1, gC0, gC1, iT, iF, iS, iC, sT6_0, sT6_1, sF2, sF3, sF4_0, sF4_1, sS1, sC1, gO0 hr, gO1 hr, gO2 hr, gO3 hr, gL0 hr, gL1 hr, gL2 hr, gL3 hr, gL4 hr, gL5 hr, gL6 hr, iO hr, iL hr, sL4 hr, sL5 hr, sL6 hr, hne, c26 hr hLr, h4, decide_false]
  | some t =>
    have ht : t < 2 ^ 31 := by have := (fiE_lt hf).1; have := hLr.1; omega
    rw [hf, oI_s] at start
    by_cases h2 : en.2.1 = 2
    · refine ⟨be, qu, ?_⟩
      rw [start, decide_eq_true h2, if_pos (by simp)]
      simp only [s84_23, s84_24, s84_27, s84_29, s84_44, s84_46, Option.bind_some, Option.bind_none, Option.toList_some, Option.toList_none, List.nil_append, List.cons_append, ↓reduceIte, reduceCtorEq, cl1_i, cl1_r, cl1_n, cl1_0, cl1_J, okS_0, okS_1, okS_2, okS_3, okS_4, bB_0, bB_and, z_0, z_1, z_10, bB_t, bB_f, Bool.true_eq_false, Bool.false_eq_true, gT0, gT1, gT2, gT3, gT4, gT5, gT6, gF0, gF1, gF2, gF3, gF4, gS0, gS1, gC0, gC1, iT, iF, iS, iC, sT6_0, sT6_1, sF2, sF3, sF4_0, sF4_1, sS1, sC1, m1_nI' ht]
    · cases h3 : isFo (lsO Lo r).1 (nI t) with
      | true =>
        refine ⟨be, qu, ?_⟩
        rw [start, decide_eq_false h2, if_pos (by simp [h3])]
        simp only [s84_23, s84_24, s84_27, s84_29, s84_32, s84_32n, s84_33, s84_36, s84_38, s84_41, s84_44, s84_46, Option.bind_some, Option.bind_none, Option.toList_some, Option.toList_none, List.nil_append, List.cons_append, ↓reduceIte, reduceCtorEq, cl1_i, cl1_r, cl1_n, cl1_0, cl1_J, okS_0, okS_1, okS_2, okS_3, okS_4, bB_0, bB_and, z_0, z_1, z_10, bB_t, bB_f, Bool.true_eq_false, Bool.false_eq_true, gT0, gT1, gT2, gT3, gT4, gT5, gT6, gF0, gF1, gF2, gF3, gF4, gS0, gS1, gC0, gC1, iT, iF, iS, iC, sT6_0, sT6_1, sF2, sF3, sF4_0, sF4_1, sS1, sC1, gO0 hr, gO1 hr, gO2 hr, gO3 hr, gL0 hr, gL1 hr, gL2 hr, gL3 hr, gL4 hr, gL5 hr, gL6 hr, iO hr, iL hr, sL4 hr, sL5 hr, sL6 hr, m1_nI' ht, c30 hr hLr, h3]
      | false =>
        obtain ⟨be', qu', l1⟩ := last (nI t)
        refine ⟨be', qu', ?_⟩
        rw [start, if_neg (by simp [h2, h3]), if_neg (by simp), ← l1, decide_eq_false h2]
        simp only [s84_23, s84_24, s84_27, s84_29, s84_32, s84_32n, s84_33, s84_36, s84_38, s84_41, s84_47, s84_49, s84_50, Option.bind_some, Option.bind_none, Option.toList_some, Option.toList_none, List.nil_append, List.cons_append, ↓reduceIte, reduceCtorEq, cl1_i, cl1_r, cl1_n, cl1_0, cl1_J, okS_0, okS_1, okS_2, okS_3, okS_4, bB_0, bB_and, z_0, z_1, z_10, bB_t, bB_f, Bool.true_eq_false, Bool.false_eq_true, gT0, gT1, gT2, gT3, gT4, gT5, gT6, gF0, gF1, gF2, gF3, gF4, gS0, gS1, gC0, gC1, iT, iF, iS, iC, sT6_0, sT6_1, sF2, sF3, sF4_0, sF4_1, sS1, sC1, gO0 hr, gO1 hr, gO2 hr, gO3 hr, gL0 hr, gL1 hr, gL2 hr, gL3 hr, gL4 hr, gL5 hr, gL6 hr, iO hr, iL hr, sL4 hr, sL5 hr, sL6 hr, m1_nI' ht, c30 hr hLr, h3]
end MVC
/-- the operations of a move -/
def wiO (en : En) (b : Nat) : List Opn := [(3, en.1, 0, []), enOp (b, en.2)]
def acO (q : Nat) (en : En) (b : Nat) : List Opn := [enOp (b, en.2), (4, q, en.1, [])]
theorem encE_nm {en : En} {b : Nat} (h : OkE en) (h1 : 1 ≤ b) (h2 : b ≤ 99) : encO (enOp (b, en.2)) = encE en (nI b) := enOp_enc (e := (b, en.2)) ⟨h1, h2, h.2.2⟩
theorem encW {en : En} {b : Nat} (h : OkE en) (h1 : 1 ≤ b) (h2 : b ≤ 99) : encS (wiO en b) = [3, nI en.1] ++ encE en (nI b) := by
  show encO (3, en.1, 0, []) ++ (encO (enOp (b, en.2)) ++ []) = _
  rw [encE_nm h h1 h2, List.append_nil]
  rfl
theorem encA {q : Nat} {en : En} {b : Nat} (h : OkE en) (h1 : 1 ≤ b) (h2 : b ≤ 99) : encS (acO q en b) = encE en (nI b) ++ [4, nI q, nI en.1] := by
  show encO (enOp (b, en.2)) ++ (encO (4, q, en.1, []) ++ []) = _
  rw [encE_nm h h1 h2, List.append_nil]
  rfl
theorem ap_enOp (st : Lst) (e : En) : (apO st (enOp e)).2 = st.2 ∧ ∀ y ∈ kids (apO st (enOp e)).1, y ∈ kids st.1 ∨ (e.2.1 = 2 ∧ y = e.2.2.1) := by
  unfold enOp
  split
  · rename_i h
    refine ⟨rfl, fun y hy => ?_⟩
    rcases kids_put (es := st.1) (e := (e.1, 2, e.2.2.1, 0)) hy with h9 | ⟨-, h9⟩
    · exact Or.inl h9
    · exact Or.inr ⟨h, h9⟩
  · refine ⟨rfl, fun y hy => ?_⟩
    rcases kids_put (es := st.1) (e := (e.1, 1, (nbs e.2.2.2 e.2.2.1).length, vB (nbs e.2.2.2 e.2.2.1))) hy with h9 | ⟨h9, -⟩
    · exact Or.inl h9
    · cases h9
theorem FitW {st : Lst} (hok : OkL st) {k b : Nat} {en : En} (hf : fiE st.1 (nI en.1) = some k) (he : OkE en ∧ OkV en) (h1 : 1 ≤ b) (h2 : b ≤ 99) : FitS st (wiO en b) := by
  refine ⟨⟨Or.inr (Or.inr (Or.inl ⟨rfl, he.1.2.1⟩)), fun h => by rcases h with h | h <;> cases h⟩, ⟨enOp_ok (e := (b, en.2)) ⟨⟨h1, h2, he.1.2.2⟩, he.2⟩, fun _ _ => ?_⟩, trivial⟩
  show (goneE st.1 en.1).length < 4
  unfold goneE
  rw [hf]
  dsimp only
  have hk := (fiE_lt hf).1
  rw [List.length_eraseIdx_of_lt hk]
  have := hok.1
  omega
theorem FitA {ts : Lst} {q b : Nat} {en : En} (hq : q < 8) (he : OkE en ∧ OkV en) (h1 : 1 ≤ b) (h2 : b ≤ 99) (hfull : fiE ts.1 (nI b) = none → ts.1.length < 4) : FitS ts (acO q en b) := by
  refine ⟨⟨enOp_ok (e := (b, en.2)) ⟨⟨h1, h2, he.1.2.2⟩, he.2⟩, fun _ h9 => hfull ?_⟩, ⟨Or.inr (Or.inr (Or.inr (Or.inl ⟨rfl, hq, he.1.1, he.1.2.1⟩))), fun h => by rcases h with h | h <;> cases h⟩, trivial⟩
  rw [enOp_name] at h9
  exact h9
section MVD
variable {sc : AC} {f : FB} {s c : OpS} {th be qu : Nat → Int32} {mo : Int32} {li : Nat → LiS} {mm : AH} {Lo : LO} {q r k b : Nat} {en : En}
theorem c86 (hX : IX f Lo) (hA : LiA Lo li) (hq : q < 8) {st : Lst} (hst : Lo q = some st) (he : st.1[k]? = some en) (hF : FitS st (wiO en b)) (h1 : 1 ≤ b) (h2 : b ≤ 99) : ∃ l' s', RunM 86 [.ref 1, .ref (13 + 6 * q), .int (nI k), .int (nI b)] (hp sc (fB f) s c th be qu mo li mm) = some (some (.int (bB (cmq f q (wiO en b) st).1)), (hp sc (fB (cmq f q (wiO en b) st).2) (s') (opf c.1 (encS (wiO en b))) th be qu mo (upL li q l') mm)) ∧ LiR l' (apS st (wiO en b)).1 (apS st (wiO en b)).2 := by
  have hL := hA q hq
  rw [lsO_of hst] at hL
  have hO := (hL.2.2.1 k en he).2
  have henc := encW hO h1 h2
  have hl9 := encE_len (x := nI b) hO
  have hlen : (encS (wiO en b)).length ≤ 32 := by
    rw [henc, List.length_append]
    simp only [List.length_cons, List.length_nil]
    omega
  have hea : eAt st.1 (nI k) = some en := by rw [eAt_nI hL.1 (List.getElem?_eq_some_iff.mp he).1, he]
  obtain ⟨l', s', r5, r6⟩ := c17q (sc := sc) (s := s) (th := th) (be := be) (qu := qu) (mo := mo) (mm := mm) (li := li) hX hq hst hL hF hlen (j := c.1)
  refine ⟨l', s', ?_, r6⟩
  simp only [e86, s86_0, s86_0n, s86_1, s86_4, Option.bind_some, Option.bind_none, Option.toList_some, Option.toList_none, List.nil_append, List.cons_append, ↓reduceIte, reduceCtorEq, cl1_i, cl1_r, cl1_n, cl1_0, cl1_J, okS_0, okS_1, okS_2, okS_3, okS_4, bB_0, bB_and, z_0, z_1, z_10, bB_t, bB_f, Bool.true_eq_false, Bool.false_eq_true, gT0, gT1, gT2, gT3, gT4, gT5, gT6, gF0, gF1, gF2, gF3, gF4, gS0, gS1, gC0, gC1, iT, iF, iS, iC, sT6_0, sT6_1, sF2, sF3, sF4_0, sF4_1, sS1, sC1, c43c]
  simp only [s86_7, s86_7n, s86_8, s86_11, s86_11n, s86_12, s86_15, s86_16, Option.bind_some, Option.bind_none, Option.toList_some, Option.toList_none, List.nil_append, List.cons_append, ↓reduceIte, reduceCtorEq, cl1_i, cl1_r, cl1_n, cl1_0, cl1_J, okS_0, okS_1, okS_2, okS_3, okS_4, bB_0, bB_and, z_0, z_1, z_10, bB_t, bB_f, Bool.true_eq_false, Bool.false_eq_true, gT0, gT1, gT2, gT3, gT4, gT5, gT6, gF0, gF1, gF2, gF3, gF4, gS0, gS1, gC0, gC1, iT, iF, iS, iC, sT6_0, sT6_1, sF2, sF3, sF4_0, sF4_1, sS1, sC1, gO0 hq, gO1 hq, gO2 hq, gO3 hq, gL0 hq, gL1 hq, gL2 hq, gL3 hq, gL4 hq, gL5 hq, gL6 hq, iO hq, iL hq, sL4 hq, sL5 hq, sL6 hq, c31 hq hL, hea, Option.elim]
  simp only [s86_19, Option.bind_some, Option.bind_none, Option.toList_some, Option.toList_none, List.nil_append, List.cons_append, ↓reduceIte, reduceCtorEq, cl1_i, cl1_r, cl1_n, cl1_0, cl1_J, okS_0, okS_1, okS_2, okS_3, okS_4, bB_0, bB_and, z_0, z_1, z_10, bB_t, bB_f, Bool.true_eq_false, Bool.false_eq_true, gT0, gT1, gT2, gT3, gT4, gT5, gT6, gF0, gF1, gF2, gF3, gF4, gS0, gS1, gC0, gC1, iT, iF, iS, iC, sT6_0, sT6_1, sF2, sF3, sF4_0, sF4_1, sS1, sC1, c49c (show ([] : List Int32).length + 2 ≤ 64 by decide), List.nil_append]
  simp only [s86_22, s86_22n, s86_23, s86_26, s86_26n, s86_27, s86_30, s86_31, s86_32, Option.bind_some, Option.bind_none, Option.toList_some, Option.toList_none, List.nil_append, List.cons_append, ↓reduceIte, reduceCtorEq, cl1_i, cl1_r, cl1_n, cl1_0, cl1_J, okS_0, okS_1, okS_2, okS_3, okS_4, bB_0, bB_and, z_0, z_1, z_10, bB_t, bB_f, Bool.true_eq_false, Bool.false_eq_true, gT0, gT1, gT2, gT3, gT4, gT5, gT6, gF0, gF1, gF2, gF3, gF4, gS0, gS1, gC0, gC1, iT, iF, iS, iC, sT6_0, sT6_1, sF2, sF3, sF4_0, sF4_1, sS1, sC1, gO0 hq, gO1 hq, gO2 hq, gO3 hq, gL0 hq, gL1 hq, gL2 hq, gL3 hq, gL4 hq, gL5 hq, gL6 hq, iO hq, iL hq, sL4 hq, sL5 hq, sL6 hq, c35c (bs := [3, nI en.1]) hq hL he (x := nI b) (Nat.le_of_ble_eq_true rfl)]
  rw [show 3 :: nI en.1 :: encE en (nI b) = encS (wiO en b) from henc.symm]
  simp only [s86_35, s86_35n, s86_36, s86_36n, s86_37, s86_40, Option.bind_some, Option.bind_none, Option.toList_some, Option.toList_none, List.nil_append, List.cons_append, ↓reduceIte, reduceCtorEq, cl1_i, cl1_r, cl1_n, cl1_0, cl1_J, okS_0, okS_1, okS_2, okS_3, okS_4, bB_0, bB_and, z_0, z_1, z_10, bB_t, bB_f, Bool.true_eq_false, Bool.false_eq_true, gT0, gT1, gT2, gT3, gT4, gT5, gT6, gF0, gF1, gF2, gF3, gF4, gS0, gS1, gC0, gC1, iT, iF, iS, iC, sT6_0, sT6_1, sF2, sF3, sF4_0, sF4_1, sS1, sC1, iO hq, r5]
  simp only [s86_43, Option.bind_some, Option.bind_none, Option.toList_some, Option.toList_none, List.nil_append, List.cons_append, ↓reduceIte, reduceCtorEq, cl1_i, cl1_r, cl1_n, cl1_0, cl1_J, okS_0, okS_1, okS_2, okS_3, okS_4, bB_0, bB_and, z_0, z_1, z_10, bB_t, bB_f, Bool.true_eq_false, Bool.false_eq_true, gT0, gT1, gT2, gT3, gT4, gT5, gT6, gF0, gF1, gF2, gF3, gF4, gS0, gS1, gC0, gC1, iT, iF, iS, iC, sT6_0, sT6_1, sF2, sF3, sF4_0, sF4_1, sS1, sC1]
/-- across: the first commit, to the target -/
theorem c87a (hX : IX f Lo) (hA : LiA Lo li) (hq : q < 8) (hr : r < 8) {ts : Lst} (hts : Lo r = some ts) (he : (lsO Lo q).1[k]? = some en) (hF : FitS ts (acO q en b)) (h1 : 1 ≤ b) (h2 : b ≤ 99) : ∃ l' s', RunM 87 [.ref 1, .ref (13 + 6 * q), .int (nI k), .ref (13 + 6 * r), .int (nI b)] (hp sc (fB f) s c th be qu mo li mm) = Run 87 52 [some (.ref 1), some (.ref (13 + 6 * q)), some (.int (nI k)), some (.ref (13 + 6 * r)), some (.int (nI b)), some (.int (nI en.1))] [.int (bB (cmq f r (acO q en b) ts).1)] (hp sc (fB (cmq f r (acO q en b) ts).2) (s') (opf c.1 (encS (acO q en b))) th be qu mo (upL li r l') mm) ∧ LiR l' (apS ts (acO q en b)).1 (apS ts (acO q en b)).2 := by
  have hL := hA q hq
  have hLr := hA r hr
  rw [lsO_of hts] at hLr
  have hO := (hL.2.2.1 k en he).2
  have henc := encA (q := q) hO h1 h2
  have hl9 := encE_len (x := nI b) hO
  have hlen : (encS (acO q en b)).length ≤ 32 := by
    rw [henc, List.length_append]
    simp only [List.length_cons, List.length_nil]
    omega
  have hea : eAt (lsO Lo q).1 (nI k) = some en := by rw [eAt_nI hL.1 (List.getElem?_eq_some_iff.mp he).1, he]
  obtain ⟨l', s', r5, r6⟩ := c17q (sc := sc) (s := s) (th := th) (be := be) (qu := qu) (mo := mo) (mm := mm) (li := li) hX hr hts hLr hF hlen (j := c.1)
  refine ⟨l', s', ?_, r6⟩
  simp only [e87, s87_0, s87_0n, s87_1, s87_4, s87_5, Option.bind_some, Option.bind_none, Option.toList_some, Option.toList_none, List.nil_append, List.cons_append, ↓reduceIte, reduceCtorEq, cl1_i, cl1_r, cl1_n, cl1_0, cl1_J, okS_0, okS_1, okS_2, okS_3, okS_4, bB_0, bB_and, z_0, z_1, z_10, bB_t, bB_f, Bool.true_eq_false, Bool.false_eq_true, gT0, gT1, gT2, gT3, gT4, gT5, gT6, gF0, gF1, gF2, gF3, gF4, gS0, gS1, gC0, gC1, iT, iF, iS, iC, sT6_0, sT6_1, sF2, sF3, sF4_0, sF4_1, sS1, sC1, gO0 hq, gO1 hq, gO2 hq, gO3 hq, gL0 hq, gL1 hq, gL2 hq, gL3 hq, gL4 hq, gL5 hq, gL6 hq, iO hq, iL hq, sL4 hq, sL5 hq, sL6 hq, c31 hq hL, hea, Option.elim]
  simp only [s87_8, s87_10, s87_10n, s87_11, s87_14, Option.bind_some, Option.bind_none, Option.toList_some, Option.toList_none, List.nil_append, List.cons_append, ↓reduceIte, reduceCtorEq, cl1_i, cl1_r, cl1_n, cl1_0, cl1_J, okS_0, okS_1, okS_2, okS_3, okS_4, bB_0, bB_and, z_0, z_1, z_10, bB_t, bB_f, Bool.true_eq_false, Bool.false_eq_true, gT0, gT1, gT2, gT3, gT4, gT5, gT6, gF0, gF1, gF2, gF3, gF4, gS0, gS1, gC0, gC1, iT, iF, iS, iC, sT6_0, sT6_1, sF2, sF3, sF4_0, sF4_1, sS1, sC1, c43c]
  simp only [s87_17, s87_17n, s87_18, s87_21, s87_21n, s87_22, s87_25, s87_26, s87_28, Option.bind_some, Option.bind_none, Option.toList_some, Option.toList_none, List.nil_append, List.cons_append, ↓reduceIte, reduceCtorEq, cl1_i, cl1_r, cl1_n, cl1_0, cl1_J, okS_0, okS_1, okS_2, okS_3, okS_4, bB_0, bB_and, z_0, z_1, z_10, bB_t, bB_f, Bool.true_eq_false, Bool.false_eq_true, gT0, gT1, gT2, gT3, gT4, gT5, gT6, gF0, gF1, gF2, gF3, gF4, gS0, gS1, gC0, gC1, iT, iF, iS, iC, sT6_0, sT6_1, sF2, sF3, sF4_0, sF4_1, sS1, sC1, gO0 hq, gO1 hq, gO2 hq, gO3 hq, gL0 hq, gL1 hq, gL2 hq, gL3 hq, gL4 hq, gL5 hq, gL6 hq, iO hq, iL hq, sL4 hq, sL5 hq, sL6 hq, c35c (bs := []) hq hL he (x := nI b) (Nat.le_of_ble_eq_true rfl), List.nil_append]
  simp only [s87_31, s87_31n, s87_32, s87_35, s87_35n, s87_36, s87_39, s87_41, Option.bind_some, Option.bind_none, Option.toList_some, Option.toList_none, List.nil_append, List.cons_append, ↓reduceIte, reduceCtorEq, cl1_i, cl1_r, cl1_n, cl1_0, cl1_J, okS_0, okS_1, okS_2, okS_3, okS_4, bB_0, bB_and, z_0, z_1, z_10, bB_t, bB_f, Bool.true_eq_false, Bool.false_eq_true, gT0, gT1, gT2, gT3, gT4, gT5, gT6, gF0, gF1, gF2, gF3, gF4, gS0, gS1, gC0, gC1, iT, iF, iS, iC, sT6_0, sT6_1, sF2, sF3, sF4_0, sF4_1, sS1, sC1, gO0 hq, gO1 hq, gO2 hq, gO3 hq, gL0 hq, gL1 hq, gL2 hq, gL3 hq, gL4 hq, gL5 hq, gL6 hq, iO hq, iL hq, sL4 hq, sL5 hq, sL6 hq, c50c (bs := encE en (nI b)) (a := nI q) (b := nI en.1) (show (encE en (nI b)).length + 3 ≤ 64 by omega)]
  rw [← henc]
  simp only [s87_44, s87_44n, s87_45, s87_45n, s87_46, s87_49, Option.bind_some, Option.bind_none, Option.toList_some, Option.toList_none, List.nil_append, List.cons_append, ↓reduceIte, reduceCtorEq, cl1_i, cl1_r, cl1_n, cl1_0, cl1_J, okS_0, okS_1, okS_2, okS_3, okS_4, bB_0, bB_and, z_0, z_1, z_10, bB_t, bB_f, Bool.true_eq_false, Bool.false_eq_true, gT0, gT1, gT2, gT3, gT4, gT5, gT6, gF0, gF1, gF2, gF3, gF4, gS0, gS1, gC0, gC1, iT, iF, iS, iC, sT6_0, sT6_1, sF2, sF3, sF4_0, sF4_1, sS1, sC1, iO hr, r5]
theorem c87b (hX : IX f Lo) (hA : LiA Lo li) (hq : q < 8) {a : Nat} (ha : a ≤ 99) {st : Lst} (hst : Lo q = some st) {y2 y4 : Int32} {z3 : Nat} : ∃ l' s', Run 87 52 [some (.ref 1), some (.ref (13 + 6 * q)), some (.int y2), some (.ref z3), some (.int y4), some (.int (nI a))] [.int 1] (hp sc (fB f) s c th be qu mo li mm) = Run 87 81 [some (.ref 1), some (.ref (13 + 6 * q)), some (.int y2), some (.ref z3), some (.int y4), some (.int (nI a))] [.int (bB (cmq f q (gnO a) st).1)] (hp sc (fB (cmq f q (gnO a) st).2) (s') (opf c.1 (encS (gnO a))) th be qu mo (upL li q l') mm) ∧ LiR l' (apS st (gnO a)).1 (apS st (gnO a)).2 := by
  have hL := hA q hq
  rw [lsO_of hst] at hL
  obtain ⟨l', s', r5, r6⟩ := c17q (sc := sc) (s := s) (th := th) (be := be) (qu := qu) (mo := mo) (mm := mm) (li := li) hX hq hst hL (FitG st ha) (by rw [encG]; exact Nat.le_of_ble_eq_true rfl) (j := c.1)
  refine ⟨l', s', ?_, r6⟩
  rw [encG] at r5 ⊢
  simp only [s87_52, s87_57, s87_57n, s87_58, s87_61, Option.bind_some, Option.bind_none, Option.toList_some, Option.toList_none, List.nil_append, List.cons_append, ↓reduceIte, reduceCtorEq, cl1_i, cl1_r, cl1_n, cl1_0, cl1_J, okS_0, okS_1, okS_2, okS_3, okS_4, bB_0, bB_and, z_0, z_1, z_10, bB_t, bB_f, Bool.true_eq_false, Bool.false_eq_true, gT0, gT1, gT2, gT3, gT4, gT5, gT6, gF0, gF1, gF2, gF3, gF4, gS0, gS1, gC0, gC1, iT, iF, iS, iC, sT6_0, sT6_1, sF2, sF3, sF4_0, sF4_1, sS1, sC1, c43c]
  simp only [s87_64, s87_64n, s87_65, s87_68, s87_70, Option.bind_some, Option.bind_none, Option.toList_some, Option.toList_none, List.nil_append, List.cons_append, ↓reduceIte, reduceCtorEq, cl1_i, cl1_r, cl1_n, cl1_0, cl1_J, okS_0, okS_1, okS_2, okS_3, okS_4, bB_0, bB_and, z_0, z_1, z_10, bB_t, bB_f, Bool.true_eq_false, Bool.false_eq_true, gT0, gT1, gT2, gT3, gT4, gT5, gT6, gF0, gF1, gF2, gF3, gF4, gS0, gS1, gC0, gC1, iT, iF, iS, iC, sT6_0, sT6_1, sF2, sF3, sF4_0, sF4_1, sS1, sC1, c49c (show ([] : List Int32).length + 2 ≤ 64 by decide), List.nil_append]
  simp only [s87_73, s87_73n, s87_74, s87_74n, s87_75, s87_78, Option.bind_some, Option.bind_none, Option.toList_some, Option.toList_none, List.nil_append, List.cons_append, ↓reduceIte, reduceCtorEq, cl1_i, cl1_r, cl1_n, cl1_0, cl1_J, okS_0, okS_1, okS_2, okS_3, okS_4, bB_0, bB_and, z_0, z_1, z_10, bB_t, bB_f, Bool.true_eq_false, Bool.false_eq_true, gT0, gT1, gT2, gT3, gT4, gT5, gT6, gF0, gF1, gF2, gF3, gF4, gS0, gS1, gC0, gC1, iT, iF, iS, iC, sT6_0, sT6_1, sF2, sF3, sF4_0, sF4_1, sS1, sC1, iO hq, r5]
theorem c87c (hX : IX f Lo) (hA : LiA Lo li) (hr : r < 8) {ts : Lst} (hts : Lo r = some ts) {z1 : Nat} {y2 y4 y5 : Int32} : ∃ l' s', Run 87 81 [some (.ref 1), some (.ref z1), some (.int y2), some (.ref (13 + 6 * r)), some (.int y4), some (.int y5)] [.int 1] (hp sc (fB f) s c th be qu mo li mm) = some (some (.int (bB (cmq f r nmO ts).1)), (hp sc (fB (cmq f r nmO ts).2) (s') (opf c.1 (encS nmO)) th be qu mo (upL li r l') mm)) ∧ LiR l' (apS ts nmO).1 (apS ts nmO).2 := by
  have hL := hA r hr
  rw [lsO_of hts] at hL
  obtain ⟨l', s', r5, r6⟩ := c17q (sc := sc) (s := s) (th := th) (be := be) (qu := qu) (mo := mo) (mm := mm) (li := li) hX hr hts hL (FitN ts) (by rw [encN]; decide) (j := c.1)
  refine ⟨l', s', ?_, r6⟩
  rw [encN] at r5 ⊢
  simp only [s87_81, s87_86, s87_86n, s87_87, s87_90, Option.bind_some, Option.bind_none, Option.toList_some, Option.toList_none, List.nil_append, List.cons_append, ↓reduceIte, reduceCtorEq, cl1_i, cl1_r, cl1_n, cl1_0, cl1_J, okS_0, okS_1, okS_2, okS_3, okS_4, bB_0, bB_and, z_0, z_1, z_10, bB_t, bB_f, Bool.true_eq_false, Bool.false_eq_true, gT0, gT1, gT2, gT3, gT4, gT5, gT6, gF0, gF1, gF2, gF3, gF4, gS0, gS1, gC0, gC1, iT, iF, iS, iC, sT6_0, sT6_1, sF2, sF3, sF4_0, sF4_1, sS1, sC1, c43c]
  simp only [s87_93, s87_93n, s87_94, s87_97, Option.bind_some, Option.bind_none, Option.toList_some, Option.toList_none, List.nil_append, List.cons_append, ↓reduceIte, reduceCtorEq, cl1_i, cl1_r, cl1_n, cl1_0, cl1_J, okS_0, okS_1, okS_2, okS_3, okS_4, bB_0, bB_and, z_0, z_1, z_10, bB_t, bB_f, Bool.true_eq_false, Bool.false_eq_true, gT0, gT1, gT2, gT3, gT4, gT5, gT6, gF0, gF1, gF2, gF3, gF4, gS0, gS1, gC0, gC1, iT, iF, iS, iC, sT6_0, sT6_1, sF2, sF3, sF4_0, sF4_1, sS1, sC1, c51c (show ([] : List Int32).length + 1 ≤ 64 by decide), List.nil_append]
  simp only [s87_100, s87_100n, s87_101, s87_101n, s87_102, s87_105, Option.bind_some, Option.bind_none, Option.toList_some, Option.toList_none, List.nil_append, List.cons_append, ↓reduceIte, reduceCtorEq, cl1_i, cl1_r, cl1_n, cl1_0, cl1_J, okS_0, okS_1, okS_2, okS_3, okS_4, bB_0, bB_and, z_0, z_1, z_10, bB_t, bB_f, Bool.true_eq_false, Bool.false_eq_true, gT0, gT1, gT2, gT3, gT4, gT5, gT6, gF0, gF1, gF2, gF3, gF4, gS0, gS1, gC0, gC1, iT, iF, iS, iC, sT6_0, sT6_1, sF2, sF3, sF4_0, sF4_1, sS1, sC1, iO hr, r5]
  simp only [s87_108, Option.bind_some, Option.bind_none, Option.toList_some, Option.toList_none, List.nil_append, List.cons_append, ↓reduceIte, reduceCtorEq, cl1_i, cl1_r, cl1_n, cl1_0, cl1_J, okS_0, okS_1, okS_2, okS_3, okS_4, bB_0, bB_and, z_0, z_1, z_10, bB_t, bB_f, Bool.true_eq_false, Bool.false_eq_true, gT0, gT1, gT2, gT3, gT4, gT5, gT6, gF0, gF1, gF2, gF3, gF4, gS0, gS1, gC0, gC1, iT, iF, iS, iC, sT6_0, sT6_1, sF2, sF3, sF4_0, sF4_1, sS1, sC1]
end MVD
section MVS
variable {sc : AC} {F : FlS} {s c : OpS} {th be qu : Nat → Int32} {mo : Int32} {li : Nat → LiS} {f : FB} {mt : Bool} {jl : Int32} {R : RgS} {O A : OpS} {j : Nat → Int32} {bs : List Int32} {e : En} {y : Int32}
theorem c118_in (hk1 : e.2.1 = 1) (h6 : e.2.2.1 ≤ 6) : ∀ (d i : Nat) (bs : List Int32), i + d = e.2.2.1 → bs.length + d ≤ 32 → Run 118 18 [some (.ref 61), some (.int 1), some (.int y), some (.int (nI e.2.2.1)), some (.long e.2.2.2), none, some (.int (nI i))] [] (hp sc F s c th be qu mo li (hM (mS f mt jl R (opf j bs) A))) = some (none, (hp sc F s c th be qu mo li (hM (mS f mt jl R (opf j (bs ++ (List.range' i d).map (byJ e.2.2.2))) A)))) := by
  intro d
  induction d with
  | zero =>
    intro i bs h1 h2
    obtain rfl : i = e.2.2.1 := by omega
    have h3 : ¬ nI e.2.2.1 < nI e.2.2.1 := nI_nlt (Nat.le_refl _) (by omega)
    simp only [s118_18, s118_20, s118_21, s118_52, Option.bind_some, Option.bind_none, Option.toList_some, Option.toList_none, List.nil_append, List.cons_append, ↓reduceIte, reduceCtorEq, cl1_i, cl1_r, cl1_n, cl1_0, cl1_J, okS_0, okS_1, okS_2, okS_3, okS_4, bB_0, bB_and, z_0, z_1, z_10, bB_t, bB_f, Bool.true_eq_false, Bool.false_eq_true, gT0, gT1, gT2, gT3, gT4, gT5, gT6, gF0, gF1, gF2, gF3, gF4, gS0, gS1, gC0, gC1, iT, iF, iS, iC, sT6_0, sT6_1, sF2, sF3, sF4_0, sF4_1, sS1, sC1, h3, List.range'_zero, List.map_nil, List.append_nil]
  | succ d ih =>
    intro i bs h1 h2
    have h3 : nI i < nI e.2.2.1 := nI_lt (by omega) (by omega)
    have hb : (e.2.2.2 >>> ((8 * nI i).toInt64 &&& 63)).toInt32 &&& 255 = byJ e.2.2.2 i := byS_eq e.2.2.2 (by omega)
    rw [s118_18]
    simp only [s118_20, s118_21, s118_24, s118_25, s118_26, s118_29, s118_29n, s118_30, s118_32, s118_34, s118_36, s118_37, s118_38, s118_39, s118_42, Option.bind_some, Option.bind_none, Option.toList_some, Option.toList_none, List.nil_append, List.cons_append, ↓reduceIte, reduceCtorEq, cl1_i, cl1_r, cl1_n, cl1_0, cl1_J, okS_0, okS_1, okS_2, okS_3, okS_4, bB_0, bB_and, z_0, z_1, z_10, bB_t, bB_f, Bool.true_eq_false, Bool.false_eq_true, gT0, gT1, gT2, gT3, gT4, gT5, gT6, gF0, gF1, gF2, gF3, gF4, gS0, gS1, gC0, gC1, iT, iF, iS, iC, sT6_0, sT6_1, sF2, sF3, sF4_0, sF4_1, sS1, sC1, h3, hb]
    simp only [s118_43, s118_46, s118_49, Option.bind_some, Option.bind_none, Option.toList_some, Option.toList_none, List.nil_append, List.cons_append, ↓reduceIte, reduceCtorEq, cl1_i, cl1_r, cl1_n, cl1_0, cl1_J, okS_0, okS_1, okS_2, okS_3, okS_4, bB_0, bB_and, z_0, z_1, z_10, bB_t, bB_f, Bool.true_eq_false, Bool.false_eq_true, gT0, gT1, gT2, gT3, gT4, gT5, gT6, gF0, gF1, gF2, gF3, gF4, gS0, gS1, gC0, gC1, iT, iF, iS, iC, sT6_0, sT6_1, sF2, sF3, sF4_0, sF4_1, sS1, sC1, gM0, gM1, gM2, gM3, gM4, gM5, gM6, gM7, gM8, gM9, gM10, gM11, gM12, gM13, gM14, gM15, gM16, gM17, gM18, iM, sM5, sM6, sM11, sM12, sM13, sM14, sM16, sM18, sM2_0, sM2_1, sM3_0, sM3_1, sM4_0, sM4_1, mS_0, mS_1, mS_2, mS_3, mS_4, mS_5, mS_6, mS_7, mS_8, mS_9, mS_10, mS_11, mS_12, mS_13, mS_14, mS_15, mS_16, mS_17, mS_18, decide_true, decide_false, Bool.not_true, Bool.not_false, c107 (show bs.length < 32 by omega), nI_1]
    rw [ih (i + 1) _ (by omega) (by simp only [List.length_append, List.length_cons, List.length_nil]; omega), List.range'_succ, List.map_cons, List.append_assoc]
    rfl
theorem c118 (hO : OkE e) (hb : bs.length + 9 ≤ 32) : RunM 118 [.ref 61, .int (nI e.2.1), .int y, .int (nI e.2.2.1), .long e.2.2.2] (hp sc F s c th be qu mo li (hM (mS f mt jl R (opf j bs) A))) = some (none, (hp sc F s c th be qu mo li (hM (mS f mt jl R (opf j (bs ++ encE e y)) A)))) := by
  have start : RunM 118 [.ref 61, .int (nI e.2.1), .int y, .int (nI e.2.2.1), .long e.2.2.2] (hp sc F s c th be qu mo li (hM (mS f mt jl R (opf j bs) A))) = Run 118 18 [some (.ref 61), some (.int (nI e.2.1)), some (.int y), some (.int (nI e.2.2.1)), some (.long e.2.2.2), none, some (.int 0)] [] (hp sc F s c th be qu mo li (hM (mS f mt jl R (opf j (bs ++ [nI e.2.1, y, nI e.2.2.1])) A))) := by
    simp only [e118, s118_0, s118_0n, s118_1, Option.bind_some, Option.bind_none, Option.toList_some, Option.toList_none, List.nil_append, List.cons_append, ↓reduceIte, reduceCtorEq, cl1_i, cl1_r, cl1_n, cl1_0, cl1_J, okS_0, okS_1, okS_2, okS_3, okS_4, bB_0, bB_and, z_0, z_1, z_10, bB_t, bB_f, Bool.true_eq_false, Bool.false_eq_true, gT0, gT1, gT2, gT3, gT4, gT5, gT6, gF0, gF1, gF2, gF3, gF4, gS0, gS1, gC0, gC1, iT, iF, iS, iC, sT6_0, sT6_1, sF2, sF3, sF4_0, sF4_1, sS1, sC1]
    simp only [s118_2, s118_5, s118_5n, s118_6, Option.bind_some, Option.bind_none, Option.toList_some, Option.toList_none, List.nil_append, List.cons_append, ↓reduceIte, reduceCtorEq, cl1_i, cl1_r, cl1_n, cl1_0, cl1_J, okS_0, okS_1, okS_2, okS_3, okS_4, bB_0, bB_and, z_0, z_1, z_10, bB_t, bB_f, Bool.true_eq_false, Bool.false_eq_true, gT0, gT1, gT2, gT3, gT4, gT5, gT6, gF0, gF1, gF2, gF3, gF4, gS0, gS1, gC0, gC1, iT, iF, iS, iC, sT6_0, sT6_1, sF2, sF3, sF4_0, sF4_1, sS1, sC1, gM0, gM1, gM2, gM3, gM4, gM5, gM6, gM7, gM8, gM9, gM10, gM11, gM12, gM13, gM14, gM15, gM16, gM17, gM18, iM, sM5, sM6, sM11, sM12, sM13, sM14, sM16, sM18, sM2_0, sM2_1, sM3_0, sM3_1, sM4_0, sM4_1, mS_0, mS_1, mS_2, mS_3, mS_4, mS_5, mS_6, mS_7, mS_8, mS_9, mS_10, mS_11, mS_12, mS_13, mS_14, mS_15, mS_16, mS_17, mS_18, decide_true, decide_false, Bool.not_true, Bool.not_false, c107 (show bs.length < 32 by omega)]
    simp only [s118_7, s118_10, s118_10n, s118_11, Option.bind_some, Option.bind_none, Option.toList_some, Option.toList_none, List.nil_append, List.cons_append, ↓reduceIte, reduceCtorEq, cl1_i, cl1_r, cl1_n, cl1_0, cl1_J, okS_0, okS_1, okS_2, okS_3, okS_4, bB_0, bB_and, z_0, z_1, z_10, bB_t, bB_f, Bool.true_eq_false, Bool.false_eq_true, gT0, gT1, gT2, gT3, gT4, gT5, gT6, gF0, gF1, gF2, gF3, gF4, gS0, gS1, gC0, gC1, iT, iF, iS, iC, sT6_0, sT6_1, sF2, sF3, sF4_0, sF4_1, sS1, sC1, gM0, gM1, gM2, gM3, gM4, gM5, gM6, gM7, gM8, gM9, gM10, gM11, gM12, gM13, gM14, gM15, gM16, gM17, gM18, iM, sM5, sM6, sM11, sM12, sM13, sM14, sM16, sM18, sM2_0, sM2_1, sM3_0, sM3_1, sM4_0, sM4_1, mS_0, mS_1, mS_2, mS_3, mS_4, mS_5, mS_6, mS_7, mS_8, mS_9, mS_10, mS_11, mS_12, mS_13, mS_14, mS_15, mS_16, mS_17, mS_18, decide_true, decide_false, Bool.not_true, Bool.not_false, c107 (bs := bs ++ [nI e.2.1]) (v := y) (by simp only [List.length_append, List.length_cons, List.length_nil]; omega)]
    simp only [s118_12, s118_15, s118_16, Option.bind_some, Option.bind_none, Option.toList_some, Option.toList_none, List.nil_append, List.cons_append, ↓reduceIte, reduceCtorEq, cl1_i, cl1_r, cl1_n, cl1_0, cl1_J, okS_0, okS_1, okS_2, okS_3, okS_4, bB_0, bB_and, z_0, z_1, z_10, bB_t, bB_f, Bool.true_eq_false, Bool.false_eq_true, gT0, gT1, gT2, gT3, gT4, gT5, gT6, gF0, gF1, gF2, gF3, gF4, gS0, gS1, gC0, gC1, iT, iF, iS, iC, sT6_0, sT6_1, sF2, sF3, sF4_0, sF4_1, sS1, sC1, gM0, gM1, gM2, gM3, gM4, gM5, gM6, gM7, gM8, gM9, gM10, gM11, gM12, gM13, gM14, gM15, gM16, gM17, gM18, iM, sM5, sM6, sM11, sM12, sM13, sM14, sM16, sM18, sM2_0, sM2_1, sM3_0, sM3_1, sM4_0, sM4_1, mS_0, mS_1, mS_2, mS_3, mS_4, mS_5, mS_6, mS_7, mS_8, mS_9, mS_10, mS_11, mS_12, mS_13, mS_14, mS_15, mS_16, mS_17, mS_18, decide_true, decide_false, Bool.not_true, Bool.not_false, c107 (bs := bs ++ [nI e.2.1] ++ [y]) (v := nI e.2.2.1) (by simp only [List.length_append, List.length_cons, List.length_nil]; omega)]
    simp only [List.append_assoc, List.cons_append, List.nil_append]
  rw [start]
  rcases hO.2.2 with ⟨g1, g2⟩ | ⟨g1, g2, g3⟩
  · have := c118_in (sc := sc) (F := F) (s := s) (c := c) (th := th) (be := be) (qu := qu) (mo := mo) (li := li) (f := f) (mt := mt) (jl := jl) (R := R) (A := A) (j := j) (y := y) g1 g2 e.2.2.1 0 (bs ++ [nI e.2.1, y, nI e.2.2.1]) (by omega) (by simp only [List.length_append, List.length_cons, List.length_nil]; omega)
    rw [nI_0] at this
    rw [show nI e.2.1 = 1 by rw [g1]; rfl] at this ⊢
    rw [this]
    have e2 : encE e y = [1, y, nI e.2.2.1] ++ (List.range' 0 e.2.2.1).map (byJ e.2.2.2) := by
      unfold encE
      rw [if_neg (by omega), ← List.range_eq_range']
      rfl
    rw [e2, ← List.append_assoc]
  · have e2 : encE e y = [nI e.2.1, y, nI e.2.2.1] := by
      unfold encE
      rw [if_pos g1, g1]
      rfl
    have h5 : ¬ nI e.2.1 = 1 := by rw [g1]; decide
    rw [e2]
    by_cases h6 : 0 < nI e.2.2.1
    · simp only [s118_18, s118_20, s118_21, s118_24, s118_25, s118_26, s118_52, Option.bind_some, Option.bind_none, Option.toList_some, Option.toList_none, List.nil_append, List.cons_append, ↓reduceIte, reduceCtorEq, cl1_i, cl1_r, cl1_n, cl1_0, cl1_J, okS_0, okS_1, okS_2, okS_3, okS_4, bB_0, bB_and, z_0, z_1, z_10, bB_t, bB_f, Bool.true_eq_false, Bool.false_eq_true, gT0, gT1, gT2, gT3, gT4, gT5, gT6, gF0, gF1, gF2, gF3, gF4, gS0, gS1, gC0, gC1, iT, iF, iS, iC, sT6_0, sT6_1, sF2, sF3, sF4_0, sF4_1, sS1, sC1, h5, h6]
    · simp only [s118_18, s118_20, s118_21, s118_52, Option.bind_some, Option.bind_none, Option.toList_some, Option.toList_none, List.nil_append, List.cons_append, ↓reduceIte, reduceCtorEq, cl1_i, cl1_r, cl1_n, cl1_0, cl1_J, okS_0, okS_1, okS_2, okS_3, okS_4, bB_0, bB_and, z_0, z_1, z_10, bB_t, bB_f, Bool.true_eq_false, Bool.false_eq_true, gT0, gT1, gT2, gT3, gT4, gT5, gT6, gF0, gF1, gF2, gF3, gF4, gS0, gS1, gC0, gC1, iT, iF, iS, iC, sT6_0, sT6_1, sF2, sF3, sF4_0, sF4_1, sS1, sC1, h6]
end MVS
