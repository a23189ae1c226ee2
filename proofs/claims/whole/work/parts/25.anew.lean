/-! ===== Listing: all operations of a record; the operations that make a list ===== -/
def apS (st : Lst) (os : List Opn) : Lst := os.foldl apO st
def encS (os : List Opn) : List Int32 := os.flatMap encO
theorem encS_len (os : List Opn) : os.length ≤ (encS os).length := by
  induction os with
  | nil => simp
  | cons o os ih =>
    simp only [encS, List.flatMap_cons, List.length_append, List.length_cons] at ih ⊢
    have := encO_pos o
    omega
def encE (e : En) (name : Int32) : List Int32 := if e.2.1 = 2 then [2, name, nI e.2.2.1] else 1 :: name :: nI e.2.2.1 :: byL e.2.2.2 e.2.2.1
def encM (mk : Option (Nat × Nat)) : List Int32 := match mk with
  | none => []
  | some p => [4, nI p.1, nI p.2]
def encL (st : Lst) : List Int32 := st.1.flatMap (fun e => encE e (nI e.1)) ++ encM st.2
theorem encE_len {e : En} {x : Int32} (h : OkE e) : (encE e x).length ≤ 9 := by
  unfold encE
  obtain ⟨-, -, h | h⟩ := h
  · rw [if_neg (by omega)]
    simp [byL_len]
    omega
  · rw [if_pos h.1]
    simp
section ANEW
variable {sc : AC} {F : FlS} {o2 : OpS} {th be qu : Nat → Int32} {mo : Int32} {li : Nat → LiS} {mm : AH} {q : Nat} {es : List En} {mk : Option (Nat × Nat)} {w : Bool} {j : Nat → Int32} {bs : List Int32} {o : OpS}
theorem c37_loop (hq : q < 8) (hb : bs.length ≤ 64) : ∀ (os : List Opn) (t : Nat) (pre : List Int32) (l : LiS) (st : Lst), bs = pre ++ encS os → t ≤ pre.length → LiR l st.1 st.2 → FitS st os → ∃ l', Run 37 4 [some (.ref (14 + 6 * q)), some (.ref (aw w)), some (.int (nI pre.length)), some (.int (nI t))] [] (hw w sc F (opf j bs) o2 th be qu mo (upL li q l) mm) = some (none, hw w sc F (opf j bs) o2 th be qu mo (upL li q l') mm) ∧ LiR l' (apS st os).1 (apS st os).2 := by
  intro os
  induction os with
  | nil =>
    intro t pre l st h1 h2 hL hF
    refine ⟨l, ?_, hL⟩
    have h3 : bs = pre := by simpa [encS] using h1
    subst h3
    by_cases ht : t < 64
    · have h4 : nI t < 64 := nI_lit (k := 64) ht (by decide)
      have h5 : ¬ nI bs.length < nI bs.length := nI_nlt (Nat.le_refl _) (by omega)
      simp only [s37_4, s37_5, s37_7, s37_10, s37_11, s37_11n, s37_12, Option.bind_some, Option.bind_none, Option.toList_some, Option.toList_none, List.nil_append, List.cons_append, ↓reduceIte, reduceCtorEq, cl1_i, cl1_r, cl1_n, cl1_0, cl1_J, okS_0, okS_1, okS_2, okS_3, okS_4, bB_0, bB_and, z_0, z_1, z_10, bB_t, bB_f, Bool.true_eq_false, Bool.false_eq_true, gT0, gT1, gT2, gT3, gT4, gT5, gT6, gF0, gF1, gF2, gF3, gF4, gS0, gS1, gC0, gC1, iT, iF, iS, iC, sT6_0, sT6_1, sF2, sF3, sF4_0, sF4_1, sS1, sC1, h4, iW]
      rw [c44]
      simp only [s37_15, s37_33, Option.bind_some, Option.bind_none, Option.toList_some, Option.toList_none, List.nil_append, List.cons_append, ↓reduceIte, reduceCtorEq, cl1_i, cl1_r, cl1_n, cl1_0, cl1_J, okS_0, okS_1, okS_2, okS_3, okS_4, bB_0, bB_and, z_0, z_1, z_10, bB_t, bB_f, Bool.true_eq_false, Bool.false_eq_true, gT0, gT1, gT2, gT3, gT4, gT5, gT6, gF0, gF1, gF2, gF3, gF4, gS0, gS1, gC0, gC1, iT, iF, iS, iC, sT6_0, sT6_1, sF2, sF3, sF4_0, sF4_1, sS1, sC1, h5]
    · have h4 : ¬ nI t < 64 := by
        have : ¬ nI t < nI 64 := nI_nlt (by omega) (by omega)
        exact this
      simp only [s37_4, s37_5, s37_7, s37_33, Option.bind_some, Option.bind_none, Option.toList_some, Option.toList_none, List.nil_append, List.cons_append, ↓reduceIte, reduceCtorEq, cl1_i, cl1_r, cl1_n, cl1_0, cl1_J, okS_0, okS_1, okS_2, okS_3, okS_4, bB_0, bB_and, z_0, z_1, z_10, bB_t, bB_f, Bool.true_eq_false, Bool.false_eq_true, gT0, gT1, gT2, gT3, gT4, gT5, gT6, gF0, gF1, gF2, gF3, gF4, gS0, gS1, gC0, gC1, iT, iF, iS, iC, sT6_0, sT6_1, sF2, sF3, sF4_0, sF4_1, sS1, sC1, h4]
  | cons op os ih =>
    intro t pre l st h1 h2 hL hF
    obtain ⟨⟨f1, f2⟩, f3⟩ := hF
    have hlen : pre.length + (encO op).length + (encS os).length = bs.length := by
      rw [h1]
      simp [encS]
      omega
    have hpos := encO_pos op
    have hdrop : bs.drop pre.length = encO op ++ encS os := by
      rw [h1, List.drop_left]
      simp [encS]
    obtain ⟨l1, r1, r2⟩ := c38 (w := w) (sc := sc) (F := F) (o2 := o2) (th := th) (be := be) (qu := qu) (mo := mo) (mm := mm) (li := upL li q l) (j := j) hq (by rw [upL_self]; exact hL) f1 f2 hb hdrop
    rw [upL_up] at r1
    obtain ⟨l2, r3, r4⟩ := ih (t + 1) (pre ++ encO op) l1 (apO st op) (by rw [h1]; simp [encS]) (by simp; omega) r2 f3
    refine ⟨l2, ?_, r4⟩
    have h4 : nI t < 64 := nI_lit (k := 64) (by omega) (by decide)
    have h5 : nI pre.length < nI bs.length := nI_lt (by omega) (by omega)
    simp only [s37_4, s37_5, s37_7, s37_10, s37_11, s37_11n, s37_12, Option.bind_some, Option.bind_none, Option.toList_some, Option.toList_none, List.nil_append, List.cons_append, ↓reduceIte, reduceCtorEq, cl1_i, cl1_r, cl1_n, cl1_0, cl1_J, okS_0, okS_1, okS_2, okS_3, okS_4, bB_0, bB_and, z_0, z_1, z_10, bB_t, bB_f, Bool.true_eq_false, Bool.false_eq_true, gT0, gT1, gT2, gT3, gT4, gT5, gT6, gF0, gF1, gF2, gF3, gF4, gS0, gS1, gC0, gC1, iT, iF, iS, iC, sT6_0, sT6_1, sF2, sF3, sF4_0, sF4_1, sS1, sC1, h4, iW]
    rw [c44]
    simp only [s37_15, s37_18, s37_19, s37_19n, s37_20, s37_20n, s37_21, s37_22, Option.bind_some, Option.bind_none, Option.toList_some, Option.toList_none, List.nil_append, List.cons_append, ↓reduceIte, reduceCtorEq, cl1_i, cl1_r, cl1_n, cl1_0, cl1_J, okS_0, okS_1, okS_2, okS_3, okS_4, bB_0, bB_and, z_0, z_1, z_10, bB_t, bB_f, Bool.true_eq_false, Bool.false_eq_true, gT0, gT1, gT2, gT3, gT4, gT5, gT6, gF0, gF1, gF2, gF3, gF4, gS0, gS1, gC0, gC1, iT, iF, iS, iC, sT6_0, sT6_1, sF2, sF3, sF4_0, sF4_1, sS1, sC1, h5, iLw hq]
    rw [r1]
    rw [← r3]
    simp only [s37_25, s37_26, s37_27, s37_30, Option.bind_some, Option.bind_none, Option.toList_some, Option.toList_none, List.nil_append, List.cons_append, ↓reduceIte, reduceCtorEq, cl1_i, cl1_r, cl1_n, cl1_0, cl1_J, okS_0, okS_1, okS_2, okS_3, okS_4, bB_0, bB_and, z_0, z_1, z_10, bB_t, bB_f, Bool.true_eq_false, Bool.false_eq_true, gT0, gT1, gT2, gT3, gT4, gT5, gT6, gF0, gF1, gF2, gF3, gF4, gS0, gS1, gC0, gC1, iT, iF, iS, iC, sT6_0, sT6_1, sF2, sF3, sF4_0, sF4_1, sS1, sC1, nI_1, nI_add, List.length_append]
theorem c37 (hq : q < 8) {st : Lst} (hL : LiR (li q) st.1 st.2) {os : List Opn} (hF : FitS st os) (hb : (encS os).length ≤ 64) : ∃ l', RunM 37 [.ref (14 + 6 * q), .ref (aw w)] (hw w sc F (opf j (encS os)) o2 th be qu mo li mm) = some (none, hw w sc F (opf j (encS os)) o2 th be qu mo (upL li q l') mm) ∧ LiR l' (apS st os).1 (apS st os).2 := by
  obtain ⟨l', r1, r2⟩ := c37_loop (w := w) (sc := sc) (F := F) (o2 := o2) (th := th) (be := be) (qu := qu) (mo := mo) (mm := mm) (li := li) (j := j) (bs := encS os) hq hb os 0 [] (li q) st rfl (Nat.le_refl _) hL hF
  refine ⟨l', ?_, r2⟩
  rw [← r1, upL_id]
  simp only [e37, s37_0, s37_1, s37_2, s37_3, Option.bind_some, Option.bind_none, Option.toList_some, Option.toList_none, List.nil_append, List.cons_append, ↓reduceIte, reduceCtorEq, cl1_i, cl1_r, cl1_n, cl1_0, cl1_J, okS_0, okS_1, okS_2, okS_3, okS_4, bB_0, bB_and, z_0, z_1, z_10, bB_t, bB_f, Bool.true_eq_false, Bool.false_eq_true, gT0, gT1, gT2, gT3, gT4, gT5, gT6, gF0, gF1, gF2, gF3, gF4, gS0, gS1, gC0, gC1, iT, iF, iS, iC, sT6_0, sT6_1, sF2, sF3, sF4_0, sF4_1, sS1, sC1]
  rfl
theorem c30w (hq : q < 8) (hL : LiR (li q) es mk) {k : Int32} : RunM 30 [.ref (14 + 6 * q), .int k] (hw w sc F o o2 th be qu mo li mm) = some (some (.int (bB (isFo es k))), hw w sc F o o2 th be qu mo li mm) := by cases w <;> exact c30 hq hL
theorem c31w (hq : q < 8) (hL : LiR (li q) es mk) {k : Int32} : RunM 31 [.ref (14 + 6 * q), .int k] (hw w sc F o o2 th be qu mo li mm) = some (some (.int ((eAt es k).elim 0 fun e => nI e.1)), hw w sc F o o2 th be qu mo li mm) := by cases w <;> exact c31 hq hL
theorem c32w (hq : q < 8) (hL : LiR (li q) es mk) {k : Int32} : RunM 32 [.ref (14 + 6 * q), .int k] (hw w sc F o o2 th be qu mo li mm) = some (some (.int ((eAt es k).elim (-1) enPr)), hw w sc F o o2 th be qu mo li mm) := by cases w <;> exact c32 hq hL
theorem c33w (hq : q < 8) (hL : LiR (li q) es mk) {k : Int32} : RunM 33 [.ref (14 + 6 * q), .int k] (hw w sc F o o2 th be qu mo li mm) = some (some (.int ((eAt es k).elim 0 enLn)), hw w sc F o o2 th be qu mo li mm) := by cases w <;> exact c33 hq hL
theorem c34w (hq : q < 8) (hL : LiR (li q) es mk) {k : Int32} : RunM 34 [.ref (14 + 6 * q), .int k] (hw w sc F o o2 th be qu mo li mm) = some (some (.long ((eAt es k).elim 0 fun e => e.2.2.2)), hw w sc F o o2 th be qu mo li mm) := by cases w <;> exact c34 hq hL
theorem c27w (hq : q < 8) (hL : LiR (li q) es mk) (hm : ∀ p, mk = some p → p.1 < 8) : RunM 27 [.ref (14 + 6 * q)] (hw w sc F o o2 th be qu mo li mm) = some (some (.int (bB mk.isSome)), hw w sc F o o2 th be qu mo li mm) := by cases w <;> exact c27 hq hL hm
theorem gL4w (hq : q < 8) : fld (hw w sc F o o2 th be qu mo li mm) (14 + 6 * q) 2 4 = some (.int (li q).2.2.2.2.1) := by cases w <;> exact gL4 hq
theorem gL5w (hq : q < 8) : fld (hw w sc F o o2 th be qu mo li mm) (14 + 6 * q) 2 5 = some (.int (li q).2.2.2.2.2.1) := by cases w <;> exact gL5 hq
theorem gL6w (hq : q < 8) : fld (hw w sc F o o2 th be qu mo li mm) (14 + 6 * q) 2 6 = some (.int (li q).2.2.2.2.2.2) := by cases w <;> exact gL6 hq
theorem c41w (hq : q < 8) (hL : LiR (li q) es mk) {k : Int32} : RunM 41 [.ref (14 + 6 * q), .int k] (hw w sc F o o2 th be qu mo li mm) = some (some (.int (bB (inB k es.length))), hw w sc F o o2 th be qu mo li mm) := by cases w <;> exact c41 hq hL
theorem gL1w (hq : q < 8) : fld (hw w sc F o o2 th be qu mo li mm) (14 + 6 * q) 2 1 = some (.ref (16 + 6 * q)) := by cases w <;> exact gL1 hq
theorem gL2w (hq : q < 8) : fld (hw w sc F o o2 th be qu mo li mm) (14 + 6 * q) 2 2 = some (.ref (17 + 6 * q)) := by cases w <;> exact gL2 hq
theorem gL3w (hq : q < 8) : fld (hw w sc F o o2 th be qu mo li mm) (14 + 6 * q) 2 3 = some (.ref (18 + 6 * q)) := by cases w <;> exact gL3 hq
theorem aPw {i : Int32} (hq : q < 8) (hi : inB i 4 = true) : ald (hw w sc F o o2 th be qu mo li mm) (16 + 6 * q) .int i = some (.int ((li q).2.1 i.toNatClampNeg)) := by cases w <;> exact aP hq hi
theorem aGw {i : Int32} (hq : q < 8) (hi : inB i 4 = true) : ald (hw w sc F o o2 th be qu mo li mm) (17 + 6 * q) .int i = some (.int ((li q).2.2.1 i.toNatClampNeg)) := by cases w <;> exact aG hq hi
theorem aJw {i : Int32} (hq : q < 8) (hi : inB i 4 = true) : ald (hw w sc F o o2 th be qu mo li mm) (18 + 6 * q) .long i = some (.long ((li q).2.2.2.1 i.toNatClampNeg)) := by cases w <;> exact aJ hq hi
theorem c35 (hq : q < 8) (hL : LiR (li q) es mk) {k : Nat} {e : En} (he : es[k]? = some e) {x : Int32} (hb : bs.length + 9 ≤ 64) : RunM 35 [.ref (14 + 6 * q), .ref (aw w), .int (nI k), .int x] (hw w sc F (opf j bs) o2 th be qu mo li mm) = some (none, hw w sc F (opf j (bs ++ encE e x)) o2 th be qu mo li mm) := by
  have h4 := hL.1
  have hk := (List.getElem?_eq_some_iff.mp he).1
  have hat : eAt es (nI k) = some e := by rw [eAt_nI h4 hk, he]
  obtain ⟨h1, h2⟩ := eAt_some hat
  obtain ⟨hE, hok⟩ := hL.2.2.1 _ e h2
  have hi := in4 h4 h1
  obtain ⟨-, -, h | h⟩ := hok
  · have hpr : enPr e = -1 := by simp [enPr, h.1]
    have hln : enLn e = nI e.2.2.1 := by simp [enLn, h.1]
    simp only [e35, s35_0, s35_0n, s35_1, s35_2, Option.bind_some, Option.bind_none, Option.toList_some, Option.toList_none, List.nil_append, List.cons_append, ↓reduceIte, reduceCtorEq, cl1_i, cl1_r, cl1_n, cl1_0, cl1_J, okS_0, okS_1, okS_2, okS_3, okS_4, bB_0, bB_and, z_0, z_1, z_10, bB_t, bB_f, Bool.true_eq_false, Bool.false_eq_true, gT0, gT1, gT2, gT3, gT4, gT5, gT6, gF0, gF1, gF2, gF3, gF4, gS0, gS1, gC0, gC1, iT, iF, iS, iC, sT6_0, sT6_1, sF2, sF3, sF4_0, sF4_1, sS1, sC1, iLw hq, c41w hq hL, h1]
    simp only [s35_5, s35_9, s35_9n, s35_10, s35_13, s35_14, s35_15, s35_16, s35_19, s35_19n, s35_20, s35_21, s35_21n, s35_22, s35_25, s35_26, s35_27, s35_27n, s35_28, s35_31, s35_32, Option.bind_some, Option.bind_none, Option.toList_some, Option.toList_none, List.nil_append, List.cons_append, ↓reduceIte, reduceCtorEq, cl1_i, cl1_r, cl1_n, cl1_0, cl1_J, okS_0, okS_1, okS_2, okS_3, okS_4, bB_0, bB_and, z_0, z_1, z_10, bB_t, bB_f, Bool.true_eq_false, Bool.false_eq_true, gT0, gT1, gT2, gT3, gT4, gT5, gT6, gF0, gF1, gF2, gF3, gF4, gS0, gS1, gC0, gC1, iT, iF, iS, iC, sT6_0, sT6_1, sF2, sF3, sF4_0, sF4_1, sS1, sC1, gL1w hq, gL2w hq, gL3w hq, aPw hq hi, aGw hq hi, aJw hq hi, hE.2.1, hE.2.2.1, hE.2.2.2, hpr, hln, eq_self]
    simp only [s35_33, Option.bind_some, Option.bind_none, Option.toList_some, Option.toList_none, List.nil_append, List.cons_append, ↓reduceIte, reduceCtorEq, cl1_i, cl1_r, cl1_n, cl1_0, cl1_J, okS_0, okS_1, okS_2, okS_3, okS_4, bB_0, bB_and, z_0, z_1, z_10, bB_t, bB_f, Bool.true_eq_false, Bool.false_eq_true, gT0, gT1, gT2, gT3, gT4, gT5, gT6, gF0, gF1, gF2, gF3, gF4, gS0, gS1, gC0, gC1, iT, iF, iS, iC, sT6_0, sT6_1, sF2, sF3, sF4_0, sF4_1, sS1, sC1, iW]
    rw [c47 h.2 (by omega)]
    simp only [s35_36, s35_50, Option.bind_some, Option.bind_none, Option.toList_some, Option.toList_none, List.nil_append, List.cons_append, ↓reduceIte, reduceCtorEq, cl1_i, cl1_r, cl1_n, cl1_0, cl1_J, okS_0, okS_1, okS_2, okS_3, okS_4, bB_0, bB_and, z_0, z_1, z_10, bB_t, bB_f, Bool.true_eq_false, Bool.false_eq_true, gT0, gT1, gT2, gT3, gT4, gT5, gT6, gF0, gF1, gF2, gF3, gF4, gS0, gS1, gC0, gC1, iT, iF, iS, iC, sT6_0, sT6_1, sF2, sF3, sF4_0, sF4_1, sS1, sC1]
    rw [encE, if_neg (by omega)]
  · have hpr : enPr e = nI e.2.2.1 := by simp [enPr, h.1]
    simp only [e35, s35_0, s35_0n, s35_1, s35_2, Option.bind_some, Option.bind_none, Option.toList_some, Option.toList_none, List.nil_append, List.cons_append, ↓reduceIte, reduceCtorEq, cl1_i, cl1_r, cl1_n, cl1_0, cl1_J, okS_0, okS_1, okS_2, okS_3, okS_4, bB_0, bB_and, z_0, z_1, z_10, bB_t, bB_f, Bool.true_eq_false, Bool.false_eq_true, gT0, gT1, gT2, gT3, gT4, gT5, gT6, gF0, gF1, gF2, gF3, gF4, gS0, gS1, gC0, gC1, iT, iF, iS, iC, sT6_0, sT6_1, sF2, sF3, sF4_0, sF4_1, sS1, sC1, iLw hq, c41w hq hL, h1]
    simp only [s35_5, s35_9, s35_9n, s35_10, s35_13, s35_14, s35_15, s35_16, s35_39, s35_39n, s35_40, s35_41, s35_41n, s35_42, s35_45, s35_46, Option.bind_some, Option.bind_none, Option.toList_some, Option.toList_none, List.nil_append, List.cons_append, ↓reduceIte, reduceCtorEq, cl1_i, cl1_r, cl1_n, cl1_0, cl1_J, okS_0, okS_1, okS_2, okS_3, okS_4, bB_0, bB_and, z_0, z_1, z_10, bB_t, bB_f, Bool.true_eq_false, Bool.false_eq_true, gT0, gT1, gT2, gT3, gT4, gT5, gT6, gF0, gF1, gF2, gF3, gF4, gS0, gS1, gC0, gC1, iT, iF, iS, iC, sT6_0, sT6_1, sF2, sF3, sF4_0, sF4_1, sS1, sC1, gL1w hq, aPw hq hi, hE.2.1, hpr, m1_nI' (show e.2.2.1 < 2 ^ 31 by omega)]
    simp only [s35_47, Option.bind_some, Option.bind_none, Option.toList_some, Option.toList_none, List.nil_append, List.cons_append, ↓reduceIte, reduceCtorEq, cl1_i, cl1_r, cl1_n, cl1_0, cl1_J, okS_0, okS_1, okS_2, okS_3, okS_4, bB_0, bB_and, z_0, z_1, z_10, bB_t, bB_f, Bool.true_eq_false, Bool.false_eq_true, gT0, gT1, gT2, gT3, gT4, gT5, gT6, gF0, gF1, gF2, gF3, gF4, gS0, gS1, gC0, gC1, iT, iF, iS, iC, sT6_0, sT6_1, sF2, sF3, sF4_0, sF4_1, sS1, sC1, iW]
    rw [c48 (by omega)]
    simp only [s35_50, Option.bind_some, Option.bind_none, Option.toList_some, Option.toList_none, List.nil_append, List.cons_append, ↓reduceIte, reduceCtorEq, cl1_i, cl1_r, cl1_n, cl1_0, cl1_J, okS_0, okS_1, okS_2, okS_3, okS_4, bB_0, bB_and, z_0, z_1, z_10, bB_t, bB_f, Bool.true_eq_false, Bool.false_eq_true, gT0, gT1, gT2, gT3, gT4, gT5, gT6, gF0, gF1, gF2, gF3, gF4, gS0, gS1, gC0, gC1, iT, iF, iS, iC, sT6_0, sT6_1, sF2, sF3, sF4_0, sF4_1, sS1, sC1]
    rw [encE, if_pos h.1]
/-- behind the last entry nothing is added -/
theorem c35n (hq : q < 8) (hL : LiR (li q) es mk) {k : Int32} (he : inB k es.length = false) {x : Int32} : RunM 35 [.ref (14 + 6 * q), .ref (aw w), .int k, .int x] (hw w sc F o o2 th be qu mo li mm) = some (none, hw w sc F o o2 th be qu mo li mm) := by
  simp only [e35, s35_0, s35_0n, s35_1, s35_2, Option.bind_some, Option.bind_none, Option.toList_some, Option.toList_none, List.nil_append, List.cons_append, ↓reduceIte, reduceCtorEq, cl1_i, cl1_r, cl1_n, cl1_0, cl1_J, okS_0, okS_1, okS_2, okS_3, okS_4, bB_0, bB_and, z_0, z_1, z_10, bB_t, bB_f, Bool.true_eq_false, Bool.false_eq_true, gT0, gT1, gT2, gT3, gT4, gT5, gT6, gF0, gF1, gF2, gF3, gF4, gS0, gS1, gC0, gC1, iT, iF, iS, iC, sT6_0, sT6_1, sF2, sF3, sF4_0, sF4_1, sS1, sC1, iLw hq, c41w hq hL, he]
  simp only [s35_5, s35_8, Option.bind_some, Option.bind_none, Option.toList_some, Option.toList_none, List.nil_append, List.cons_append, ↓reduceIte, reduceCtorEq, cl1_i, cl1_r, cl1_n, cl1_0, cl1_J, okS_0, okS_1, okS_2, okS_3, okS_4, bB_0, bB_and, z_0, z_1, z_10, bB_t, bB_f, Bool.true_eq_false, Bool.false_eq_true, gT0, gT1, gT2, gT3, gT4, gT5, gT6, gF0, gF1, gF2, gF3, gF4, gS0, gS1, gC0, gC1, iT, iF, iS, iC, sT6_0, sT6_1, sF2, sF3, sF4_0, sF4_1, sS1, sC1]
theorem c36 (hq : q < 8) (hL : LiR (li q) es mk) (hm : ∀ p, mk = some p → p.1 < 8) (hb : bs.length + 3 ≤ 64) : RunM 36 [.ref (14 + 6 * q), .ref (aw w)] (hw w sc F (opf j bs) o2 th be qu mo li mm) = some (none, hw w sc F (opf j (bs ++ encM mk)) o2 th be qu mo li mm) := by
  simp only [e36, s36_0, s36_0n, s36_1, Option.bind_some, Option.bind_none, Option.toList_some, Option.toList_none, List.nil_append, List.cons_append, ↓reduceIte, reduceCtorEq, cl1_i, cl1_r, cl1_n, cl1_0, cl1_J, okS_0, okS_1, okS_2, okS_3, okS_4, bB_0, bB_and, z_0, z_1, z_10, bB_t, bB_f, Bool.true_eq_false, Bool.false_eq_true, gT0, gT1, gT2, gT3, gT4, gT5, gT6, gF0, gF1, gF2, gF3, gF4, gS0, gS1, gC0, gC1, iT, iF, iS, iC, sT6_0, sT6_1, sF2, sF3, sF4_0, sF4_1, sS1, sC1, iLw hq, c27w hq hL hm]
  cases mk with
  | none =>
    simp only [s36_4, s36_19, Option.bind_some, Option.bind_none, Option.toList_some, Option.toList_none, List.nil_append, List.cons_append, ↓reduceIte, reduceCtorEq, cl1_i, cl1_r, cl1_n, cl1_0, cl1_J, okS_0, okS_1, okS_2, okS_3, okS_4, bB_0, bB_and, z_0, z_1, z_10, bB_t, bB_f, Bool.true_eq_false, Bool.false_eq_true, gT0, gT1, gT2, gT3, gT4, gT5, gT6, gF0, gF1, gF2, gF3, gF4, gS0, gS1, gC0, gC1, iT, iF, iS, iC, sT6_0, sT6_1, sF2, sF3, sF4_0, sF4_1, sS1, sC1, Option.isSome_none, encM, List.append_nil]
  | some p =>
    have h5 := hL.2.2.2
    simp only [LiM] at h5
    simp only [s36_4, s36_7, s36_7n, s36_8, s36_8n, s36_9, s36_12, s36_12n, s36_13, s36_16, Option.bind_some, Option.bind_none, Option.toList_some, Option.toList_none, List.nil_append, List.cons_append, ↓reduceIte, reduceCtorEq, cl1_i, cl1_r, cl1_n, cl1_0, cl1_J, okS_0, okS_1, okS_2, okS_3, okS_4, bB_0, bB_and, z_0, z_1, z_10, bB_t, bB_f, Bool.true_eq_false, Bool.false_eq_true, gT0, gT1, gT2, gT3, gT4, gT5, gT6, gF0, gF1, gF2, gF3, gF4, gS0, gS1, gC0, gC1, iT, iF, iS, iC, sT6_0, sT6_1, sF2, sF3, sF4_0, sF4_1, sS1, sC1, Option.isSome_some, gL5w hq, gL6w hq, h5.1, h5.2, iW]
    rw [c50 (by omega)]
    simp only [s36_19, Option.bind_some, Option.bind_none, Option.toList_some, Option.toList_none, List.nil_append, List.cons_append, ↓reduceIte, reduceCtorEq, cl1_i, cl1_r, cl1_n, cl1_0, cl1_J, okS_0, okS_1, okS_2, okS_3, okS_4, bB_0, bB_and, z_0, z_1, z_10, bB_t, bB_f, Bool.true_eq_false, Bool.false_eq_true, gT0, gT1, gT2, gT3, gT4, gT5, gT6, gF0, gF1, gF2, gF3, gF4, gS0, gS1, gC0, gC1, iT, iF, iS, iC, sT6_0, sT6_1, sF2, sF3, sF4_0, sF4_1, sS1, sC1, encM]
end ANEW
