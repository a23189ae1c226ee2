/-! ===== Reading logs ===== -/
def RecAt (f : FB) (b e : Nat) (bs : List Int32) : Prop := gB f (b * 64 + e) = bs.length ∧ rb f (b * 64 + e + 1) bs.length = bs ∧ nx f b e = some (e + bs.length + 2)
/-- the records of block b from offset e on -/
def LgR (f : FB) (b : Nat) : Nat → List (List Opn) → Prop
  | e, [] => nx f b e = none
  | e, os :: rs => RecAt f b e (encS os) ∧ LgR f b (e + (encS os).length + 2) rs
def lgE : Nat → List (List Opn) → Nat
  | e, [] => e
  | e, os :: rs => lgE (e + (encS os).length + 2) rs
def nilL : Lst := ([], none)
/-- what a pair's log says -/
def LdR (f : FB) (q : Nat) (st : Lst) : Prop := (act f q = none ∧ st = nilL) ∨ ∃ b rs, act f q = some b ∧ LgR f b 1 rs ∧ FitS nilL rs.flatten ∧ st = apS nilL rs.flatten
theorem apS_app (st : Lst) (a b : List Opn) : apS st (a ++ b) = apS (apS st a) b := List.foldl_append
theorem FitS_app : ∀ (a b : List Opn) (st : Lst), FitS st (a ++ b) ↔ FitS st a ∧ FitS (apS st a) b := by
  intro a
  induction a with
  | nil => intro b st; simp [FitS, apS]
  | cons o a ih =>
    intro b st
    simp only [List.cons_append, FitS, ih, apS, List.foldl_cons]
    exact and_assoc.symm
theorem LgR_end {f : FB} {b : Nat} : ∀ (rs : List (List Opn)) (e n : Nat), LgR f b e rs → rs.length ≤ n → lEn f b n e = lgE e rs := by
  intro rs
  induction rs with
  | nil =>
    intro e n h hn
    cases n with
    | zero => rfl
    | succ n =>
      unfold lEn
      have : nx f b e = none := h
      rw [this]
      rfl
  | cons os rs ih =>
    intro e n h hn
    cases n with
    | zero => simp at hn
    | succ n =>
      obtain ⟨⟨-, -, h1⟩, h2⟩ := h
      unfold lEn
      rw [h1]
      exact ih _ n h2 (by simpa using hn)
theorem LgR_len {f : FB} {b : Nat} : ∀ (rs : List (List Opn)) (e : Nat), e ≤ 64 → LgR f b e rs → e + 2 * rs.length ≤ 64 ∧ lgE e rs ≤ 64 ∧ e ≤ lgE e rs := by
  intro rs
  induction rs with
  | nil => intro e he h; exact ⟨by simpa using he, he, Nat.le_refl _⟩
  | cons os rs ih =>
    intro e he h
    obtain ⟨⟨-, -, h1⟩, h2⟩ := h
    have h3 := nx_lt h1
    obtain ⟨g1, g2, g3⟩ := ih _ h3.2 h2
    refine ⟨by simp only [List.length_cons]; omega, g2, ?_⟩
    show e ≤ lgE (e + (encS os).length + 2) rs
    omega
theorem LgR_lE {f : FB} {b : Nat} {rs : List (List Opn)} (h : LgR f b 1 rs) : lE f b = lgE 1 rs := LgR_end rs 1 64 h (by have := (LgR_len rs 1 (by omega) h).1; omega)
section LOAD
variable {sc : AC} {f : FB} {s c : OpS} {th be qu : Nat → Int32} {mo : Int32} {li : Nat → LiS} {mm : AH} {q : Nat} {j : Nat → Int32} {bs : List Int32}
theorem c20_loop (hB : BOk f) (hq : q < 8) {b e n : Nat} (hb : b < 16) (hn : e + 1 + n < 64) : ∀ (d i : Nat), i + d = n → Run 20 20 [some (.ref (13 + 6 * q)), some (.int (nI b)), some (.int (nI e)), some (.int (nI n)), some (.int (nI i))] [] (hp sc (fB f) (opf j (rb f (b * 64 + e + 1) i)) c th be qu mo li mm) = some (none, (hp sc (fB f) (opf j (rb f (b * 64 + e + 1) n)) c th be qu mo li mm)) := by
  intro d
  induction d with
  | zero =>
    intro i h1
    obtain rfl : i = n := by omega
    have h3 : ¬ nI i < nI i := nI_nlt (Nat.le_refl _) (by omega)
    simp only [s20_20, s20_22, s20_23, s20_60, Option.bind_some, Option.bind_none, Option.toList_some, Option.toList_none, List.nil_append, List.cons_append, ↓reduceIte, reduceCtorEq, cl1_i, cl1_r, cl1_n, cl1_0, cl1_J, okS_0, okS_1, okS_2, okS_3, okS_4, bB_0, bB_and, z_0, z_1, z_10, bB_t, bB_f, Bool.true_eq_false, Bool.false_eq_true, gT0, gT1, gT2, gT3, gT4, gT5, gT6, gF0, gF1, gF2, gF3, gF4, gS0, gS1, gC0, gC1, iT, iF, iS, iC, sT6_0, sT6_1, sF2, sF3, sF4_0, sF4_1, sS1, sC1, h3]
  | succ d ih =>
    intro i h1
    have h3 : nI i < nI n := nI_lt (by omega) (by omega)
    have h4 : nI i < 64 := nI_lit (k := 64) (by omega) (by decide)
    have e1 : nI e + 1 + nI i = nI (e + 1 + i) := by rw [nI_1, nI_add]
    have e2 : pk f (nI b) (nI (e + 1 + i)) = f.1 (b * 64 + e + 1 + i) := by
      rw [pk_nI hB hb (by omega), show b * 64 + e + 1 + i = b * 64 + (e + 1 + i) by omega]
      exact (hB _ (by omega)).1.symm
    have e3 : rb f (b * 64 + e + 1) i ++ [f.1 (b * 64 + e + 1 + i)] = rb f (b * 64 + e + 1) (i + 1) := by simp [rb, List.range_succ]
    simp only [s20_20, s20_22, s20_23, s20_26, s20_28, s20_30, s20_33, s20_33n, s20_34, s20_37, s20_37n, s20_38, s20_41, s20_42, s20_43, s20_44, s20_45, s20_47, s20_48, Option.bind_some, Option.bind_none, Option.toList_some, Option.toList_none, List.nil_append, List.cons_append, ↓reduceIte, reduceCtorEq, cl1_i, cl1_r, cl1_n, cl1_0, cl1_J, okS_0, okS_1, okS_2, okS_3, okS_4, bB_0, bB_and, z_0, z_1, z_10, bB_t, bB_f, Bool.true_eq_false, Bool.false_eq_true, gT0, gT1, gT2, gT3, gT4, gT5, gT6, gF0, gF1, gF2, gF3, gF4, gS0, gS1, gC0, gC1, iT, iF, iS, iC, sT6_0, sT6_1, sF2, sF3, sF4_0, sF4_1, sS1, sC1, gO0 hq, gO1 hq, gO2 hq, gO3 hq, gL0 hq, gL1 hq, gL2 hq, gL3 hq, gL4 hq, gL5 hq, gL6 hq, iO hq, iL hq, sL4 hq, sL5 hq, sL6 hq, h3, h4, c6, e1, e2]
    simp only [s20_51, Option.bind_some, Option.bind_none, Option.toList_some, Option.toList_none, List.nil_append, List.cons_append, ↓reduceIte, reduceCtorEq, cl1_i, cl1_r, cl1_n, cl1_0, cl1_J, okS_0, okS_1, okS_2, okS_3, okS_4, bB_0, bB_and, z_0, z_1, z_10, bB_t, bB_f, Bool.true_eq_false, Bool.false_eq_true, gT0, gT1, gT2, gT3, gT4, gT5, gT6, gF0, gF1, gF2, gF3, gF4, gS0, gS1, gC0, gC1, iT, iF, iS, iC, sT6_0, sT6_1, sF2, sF3, sF4_0, sF4_1, sS1, sC1]
    rw [c46s (by rw [rb_len]; omega), e3]
    simp only [s20_54, s20_57, Option.bind_some, Option.bind_none, Option.toList_some, Option.toList_none, List.nil_append, List.cons_append, ↓reduceIte, reduceCtorEq, cl1_i, cl1_r, cl1_n, cl1_0, cl1_J, okS_0, okS_1, okS_2, okS_3, okS_4, bB_0, bB_and, z_0, z_1, z_10, bB_t, bB_f, Bool.true_eq_false, Bool.false_eq_true, gT0, gT1, gT2, gT3, gT4, gT5, gT6, gF0, gF1, gF2, gF3, gF4, gS0, gS1, gC0, gC1, iT, iF, iS, iC, sT6_0, sT6_1, sF2, sF3, sF4_0, sF4_1, sS1, sC1, nI_1]
    exact ih (i + 1) (by omega)
theorem c20 (hB : BOk f) (hq : q < 8) {b e : Nat} (hb : b < 16) (hn : e + 1 + gB f (b * 64 + e) < 64) : RunM 20 [.ref (13 + 6 * q), .int (nI b), .int (nI e)] (hp sc (fB f) s c th be qu mo li mm) = some (none, (hp sc (fB f) (opf s.1 (rb f (b * 64 + e + 1) (gB f (b * 64 + e)))) c th be qu mo li mm)) := by
  simp only [e20, s20_0, s20_0n, s20_1, s20_4, s20_5, s20_6, Option.bind_some, Option.bind_none, Option.toList_some, Option.toList_none, List.nil_append, List.cons_append, ↓reduceIte, reduceCtorEq, cl1_i, cl1_r, cl1_n, cl1_0, cl1_J, okS_0, okS_1, okS_2, okS_3, okS_4, bB_0, bB_and, z_0, z_1, z_10, bB_t, bB_f, Bool.true_eq_false, Bool.false_eq_true, gT0, gT1, gT2, gT3, gT4, gT5, gT6, gF0, gF1, gF2, gF3, gF4, gS0, gS1, gC0, gC1, iT, iF, iS, iC, sT6_0, sT6_1, sF2, sF3, sF4_0, sF4_1, sS1, sC1, gO0 hq, gO1 hq, gO2 hq, gO3 hq, gL0 hq, gL1 hq, gL2 hq, gL3 hq, gL4 hq, gL5 hq, gL6 hq, iO hq, iL hq, sL4 hq, sL5 hq, sL6 hq, c6, pk_nI hB hb (show e < 64 by omega)]
  simp only [s20_9, s20_10, s20_10n, s20_11, s20_14, s20_17, s20_18, Option.bind_some, Option.bind_none, Option.toList_some, Option.toList_none, List.nil_append, List.cons_append, ↓reduceIte, reduceCtorEq, cl1_i, cl1_r, cl1_n, cl1_0, cl1_J, okS_0, okS_1, okS_2, okS_3, okS_4, bB_0, bB_and, z_0, z_1, z_10, bB_t, bB_f, Bool.true_eq_false, Bool.false_eq_true, gT0, gT1, gT2, gT3, gT4, gT5, gT6, gF0, gF1, gF2, gF3, gF4, gS0, gS1, gC0, gC1, iT, iF, iS, iC, sT6_0, sT6_1, sF2, sF3, sF4_0, sF4_1, sS1, sC1, gO0 hq, gO1 hq, gO2 hq, gO3 hq, gL0 hq, gL1 hq, gL2 hq, gL3 hq, gL4 hq, gL5 hq, gL6 hq, iO hq, iL hq, sL4 hq, sL5 hq, sL6 hq, c43s]
  have := c20_loop (sc := sc) (f := f) (c := c) (th := th) (be := be) (qu := qu) (mo := mo) (li := li) (mm := mm) (j := s.1) hB hq hb hn (gB f (b * 64 + e)) 0 (by omega)
  rw [nI_0] at this
  exact this
theorem c15_loop (hB : BOk f) (hq : q < 8) {b : Nat} (hb : b < 16) : ∀ (rs : List (List Opn)) (e t : Nat) (l : LiS) (st : Lst) (s : OpS) (y : Option Value), e ≤ 64 → 2 * t ≤ e → LgR f b e rs → LiR l st.1 st.2 → FitS st rs.flatten → ∃ l' s', Run 15 16 [some (.ref (13 + 6 * q)), some (.int (nI b)), some (.int (nI e)), some (.int (nI t)), y] [] (hp sc (fB f) s c th be qu mo (upL li q l) mm) = some (none, (hp sc (fB f) (s') c th be qu mo (upL li q l') mm)) ∧ LiR l' (apS st rs.flatten).1 (apS st rs.flatten).2 := by
  intro rs
  induction rs with
  | nil =>
    intro e t l st s y he ht hG hL hF
    have h3 : nI t < 64 := nI_lit (k := 64) (by omega) (by decide)
    have hn : nx f b e = none := hG
    have ho : oI none = -1 := rfl
    refine ⟨l, s, ?_, hL⟩
    simp only [s15_16, s15_17, s15_19, s15_22, s15_22n, s15_23, s15_26, s15_27, s15_28, Option.bind_some, Option.bind_none, Option.toList_some, Option.toList_none, List.nil_append, List.cons_append, ↓reduceIte, reduceCtorEq, cl1_i, cl1_r, cl1_n, cl1_0, cl1_J, okS_0, okS_1, okS_2, okS_3, okS_4, bB_0, bB_and, z_0, z_1, z_10, bB_t, bB_f, Bool.true_eq_false, Bool.false_eq_true, gT0, gT1, gT2, gT3, gT4, gT5, gT6, gF0, gF1, gF2, gF3, gF4, gS0, gS1, gC0, gC1, iT, iF, iS, iC, sT6_0, sT6_1, sF2, sF3, sF4_0, sF4_1, sS1, sC1, gO0 hq, gO1 hq, gO2 hq, gO3 hq, gL0 hq, gL1 hq, gL2 hq, gL3 hq, gL4 hq, gL5 hq, gL6 hq, iO hq, iL hq, sL4 hq, sL5 hq, sL6 hq, h3, c9 hB hb (show e < 100000 by omega), hn, ho]
    simp only [s15_31, s15_33, s15_35, s15_36, s15_39, Option.bind_some, Option.bind_none, Option.toList_some, Option.toList_none, List.nil_append, List.cons_append, ↓reduceIte, reduceCtorEq, cl1_i, cl1_r, cl1_n, cl1_0, cl1_J, okS_0, okS_1, okS_2, okS_3, okS_4, bB_0, bB_and, z_0, z_1, z_10, bB_t, bB_f, Bool.true_eq_false, Bool.false_eq_true, gT0, gT1, gT2, gT3, gT4, gT5, gT6, gF0, gF1, gF2, gF3, gF4, gS0, gS1, gC0, gC1, iT, iF, iS, iC, sT6_0, sT6_1, sF2, sF3, sF4_0, sF4_1, sS1, sC1]
  | cons os rs ih =>
    intro e t l st s y he ht hG hL hF
    obtain ⟨⟨g1, g2, g3⟩, g4⟩ := hG
    have h9 := nx_lt g3
    rw [List.flatten_cons, FitS_app] at hF
    obtain ⟨f1, f2⟩ := hF
    have h3 : nI t < 64 := nI_lit (k := 64) (by omega) (by decide)
    have ho : oI (some (e + (encS os).length + 2)) = nI (e + (encS os).length + 2) := rfl
    obtain ⟨l1, r1, r2⟩ := c37s (sc := sc) (F := fB f) (j := s.1) (c := c) (th := th) (be := be) (qu := qu) (mo := mo) (li := upL li q l) (mm := mm) hq (by rw [upL_self]; exact hL) f1 (by omega)
    rw [upL_up] at r1
    have e1 : rb f (b * 64 + e + 1) (gB f (b * 64 + e)) = encS os := by rw [g1]; exact g2
    obtain ⟨l2, s2, r3, r4⟩ := ih (e + (encS os).length + 2) (t + 1) l1 (apS st os) (opf s.1 (encS os)) (some (.int (nI (e + (encS os).length + 2)))) h9.2 (by omega) g4 r2 f2
    refine ⟨l2, s2, ?_, by rw [List.flatten_cons, apS_app]; exact r4⟩
    simp only [s15_16, s15_17, s15_19, s15_22, s15_22n, s15_23, s15_26, s15_27, s15_28, Option.bind_some, Option.bind_none, Option.toList_some, Option.toList_none, List.nil_append, List.cons_append, ↓reduceIte, reduceCtorEq, cl1_i, cl1_r, cl1_n, cl1_0, cl1_J, okS_0, okS_1, okS_2, okS_3, okS_4, bB_0, bB_and, z_0, z_1, z_10, bB_t, bB_f, Bool.true_eq_false, Bool.false_eq_true, gT0, gT1, gT2, gT3, gT4, gT5, gT6, gF0, gF1, gF2, gF3, gF4, gS0, gS1, gC0, gC1, iT, iF, iS, iC, sT6_0, sT6_1, sF2, sF3, sF4_0, sF4_1, sS1, sC1, gO0 hq, gO1 hq, gO2 hq, gO3 hq, gL0 hq, gL1 hq, gL2 hq, gL3 hq, gL4 hq, gL5 hq, gL6 hq, iO hq, iL hq, sL4 hq, sL5 hq, sL6 hq, h3, c9 hB hb (show e < 100000 by omega), g3, ho]
    simp only [s15_31, s15_33, s15_35, s15_36, s15_39, s15_40, s15_40n, s15_41, s15_42, s15_43, Option.bind_some, Option.bind_none, Option.toList_some, Option.toList_none, List.nil_append, List.cons_append, ↓reduceIte, reduceCtorEq, cl1_i, cl1_r, cl1_n, cl1_0, cl1_J, okS_0, okS_1, okS_2, okS_3, okS_4, bB_0, bB_and, z_0, z_1, z_10, bB_t, bB_f, Bool.true_eq_false, Bool.false_eq_true, gT0, gT1, gT2, gT3, gT4, gT5, gT6, gF0, gF1, gF2, gF3, gF4, gS0, gS1, gC0, gC1, iT, iF, iS, iC, sT6_0, sT6_1, sF2, sF3, sF4_0, sF4_1, sS1, sC1, gO0 hq, gO1 hq, gO2 hq, gO3 hq, gL0 hq, gL1 hq, gL2 hq, gL3 hq, gL4 hq, gL5 hq, gL6 hq, iO hq, iL hq, sL4 hq, sL5 hq, sL6 hq, m1_nI' (show e + (encS os).length + 2 < 2 ^ 31 by omega)]
    rw [c20 hB hq hb (by rw [g1]; omega), e1]
    simp only [s15_46, s15_46n, s15_47, s15_50, s15_50n, s15_51, s15_54, Option.bind_some, Option.bind_none, Option.toList_some, Option.toList_none, List.nil_append, List.cons_append, ↓reduceIte, reduceCtorEq, cl1_i, cl1_r, cl1_n, cl1_0, cl1_J, okS_0, okS_1, okS_2, okS_3, okS_4, bB_0, bB_and, z_0, z_1, z_10, bB_t, bB_f, Bool.true_eq_false, Bool.false_eq_true, gT0, gT1, gT2, gT3, gT4, gT5, gT6, gF0, gF1, gF2, gF3, gF4, gS0, gS1, gC0, gC1, iT, iF, iS, iC, sT6_0, sT6_1, sF2, sF3, sF4_0, sF4_1, sS1, sC1, gO0 hq, gO1 hq, gO2 hq, gO3 hq, gL0 hq, gL1 hq, gL2 hq, gL3 hq, gL4 hq, gL5 hq, gL6 hq, iO hq, iL hq, sL4 hq, sL5 hq, sL6 hq, r1]
    simp only [s15_57, s15_59, s15_60, s15_63, Option.bind_some, Option.bind_none, Option.toList_some, Option.toList_none, List.nil_append, List.cons_append, ↓reduceIte, reduceCtorEq, cl1_i, cl1_r, cl1_n, cl1_0, cl1_J, okS_0, okS_1, okS_2, okS_3, okS_4, bB_0, bB_and, z_0, z_1, z_10, bB_t, bB_f, Bool.true_eq_false, Bool.false_eq_true, gT0, gT1, gT2, gT3, gT4, gT5, gT6, gF0, gF1, gF2, gF3, gF4, gS0, gS1, gC0, gC1, iT, iF, iS, iC, sT6_0, sT6_1, sF2, sF3, sF4_0, sF4_1, sS1, sC1, nI_1]
    exact r3
theorem c15 (hB : BOk f) (hq : q < 8) {st : Lst} (hG : LdR f q st) : ∃ l' s', RunM 15 [.ref (13 + 6 * q)] (hp sc (fB f) s c th be qu mo li mm) = some (none, (hp sc (fB f) (s') c th be qu mo (upL li q l') mm)) ∧ LiR l' st.1 st.2 := by
  obtain ⟨l0, r1, r2⟩ := c24 (sc := sc) (F := fB f) (s := s) (c := c) (th := th) (be := be) (qu := qu) (mo := mo) (li := li) (mm := mm) hq
  rcases hG with ⟨hn, rfl⟩ | ⟨b, rs, ha, hG, hF, rfl⟩
  · refine ⟨l0, s, ?_, r2⟩
    have ho : oI none = -1 := rfl
    have h0 : (0 : Int32) < 64 := by decide
    simp only [e15, s15_0, s15_0n, s15_1, s15_4, Option.bind_some, Option.bind_none, Option.toList_some, Option.toList_none, List.nil_append, List.cons_append, ↓reduceIte, reduceCtorEq, cl1_i, cl1_r, cl1_n, cl1_0, cl1_J, okS_0, okS_1, okS_2, okS_3, okS_4, bB_0, bB_and, z_0, z_1, z_10, bB_t, bB_f, Bool.true_eq_false, Bool.false_eq_true, gT0, gT1, gT2, gT3, gT4, gT5, gT6, gF0, gF1, gF2, gF3, gF4, gS0, gS1, gC0, gC1, iT, iF, iS, iC, sT6_0, sT6_1, sF2, sF3, sF4_0, sF4_1, sS1, sC1, gO0 hq, gO1 hq, gO2 hq, gO3 hq, gL0 hq, gL1 hq, gL2 hq, gL3 hq, gL4 hq, gL5 hq, gL6 hq, iO hq, iL hq, sL4 hq, sL5 hq, sL6 hq, r1]
    simp only [s15_7, s15_7n, s15_8, Option.bind_some, Option.bind_none, Option.toList_some, Option.toList_none, List.nil_append, List.cons_append, ↓reduceIte, reduceCtorEq, cl1_i, cl1_r, cl1_n, cl1_0, cl1_J, okS_0, okS_1, okS_2, okS_3, okS_4, bB_0, bB_and, z_0, z_1, z_10, bB_t, bB_f, Bool.true_eq_false, Bool.false_eq_true, gT0, gT1, gT2, gT3, gT4, gT5, gT6, gF0, gF1, gF2, gF3, gF4, gS0, gS1, gC0, gC1, iT, iF, iS, iC, sT6_0, sT6_1, sF2, sF3, sF4_0, sF4_1, sS1, sC1, gO0 hq, gO1 hq, gO2 hq, gO3 hq, gL0 hq, gL1 hq, gL2 hq, gL3 hq, gL4 hq, gL5 hq, gL6 hq, iO hq, iL hq, sL4 hq, sL5 hq, sL6 hq, c14 hB hq, hn, ho]
    simp only [s15_11, s15_12, s15_13, s15_14, s15_15, s15_16, s15_17, s15_19, s15_22, s15_22n, s15_23, s15_26, s15_27, s15_28, Option.bind_some, Option.bind_none, Option.toList_some, Option.toList_none, List.nil_append, List.cons_append, ↓reduceIte, reduceCtorEq, cl1_i, cl1_r, cl1_n, cl1_0, cl1_J, okS_0, okS_1, okS_2, okS_3, okS_4, bB_0, bB_and, z_0, z_1, z_10, bB_t, bB_f, Bool.true_eq_false, Bool.false_eq_true, gT0, gT1, gT2, gT3, gT4, gT5, gT6, gF0, gF1, gF2, gF3, gF4, gS0, gS1, gC0, gC1, iT, iF, iS, iC, sT6_0, sT6_1, sF2, sF3, sF4_0, sF4_1, sS1, sC1, gO0 hq, gO1 hq, gO2 hq, gO3 hq, gL0 hq, gL1 hq, gL2 hq, gL3 hq, gL4 hq, gL5 hq, gL6 hq, iO hq, iL hq, sL4 hq, sL5 hq, sL6 hq, h0, c9m]
    simp only [s15_31, s15_33, s15_35, s15_36, s15_39, Option.bind_some, Option.bind_none, Option.toList_some, Option.toList_none, List.nil_append, List.cons_append, ↓reduceIte, reduceCtorEq, cl1_i, cl1_r, cl1_n, cl1_0, cl1_J, okS_0, okS_1, okS_2, okS_3, okS_4, bB_0, bB_and, z_0, z_1, z_10, bB_t, bB_f, Bool.true_eq_false, Bool.false_eq_true, gT0, gT1, gT2, gT3, gT4, gT5, gT6, gF0, gF1, gF2, gF3, gF4, gS0, gS1, gC0, gC1, iT, iF, iS, iC, sT6_0, sT6_1, sF2, sF3, sF4_0, sF4_1, sS1, sC1]
  · obtain ⟨hb, -⟩ := act_lt hq ha
    obtain ⟨l', s', r3, r4⟩ := c15_loop (sc := sc) (f := f) (c := c) (th := th) (be := be) (qu := qu) (mo := mo) (li := li) (mm := mm) hB hq hb rs 1 0 l0 nilL s none (by omega) (by omega) hG r2 hF
    refine ⟨l', s', ?_, r4⟩
    have ho : oI (some b) = nI b := rfl
    simp only [e15, s15_0, s15_0n, s15_1, s15_4, Option.bind_some, Option.bind_none, Option.toList_some, Option.toList_none, List.nil_append, List.cons_append, ↓reduceIte, reduceCtorEq, cl1_i, cl1_r, cl1_n, cl1_0, cl1_J, okS_0, okS_1, okS_2, okS_3, okS_4, bB_0, bB_and, z_0, z_1, z_10, bB_t, bB_f, Bool.true_eq_false, Bool.false_eq_true, gT0, gT1, gT2, gT3, gT4, gT5, gT6, gF0, gF1, gF2, gF3, gF4, gS0, gS1, gC0, gC1, iT, iF, iS, iC, sT6_0, sT6_1, sF2, sF3, sF4_0, sF4_1, sS1, sC1, gO0 hq, gO1 hq, gO2 hq, gO3 hq, gL0 hq, gL1 hq, gL2 hq, gL3 hq, gL4 hq, gL5 hq, gL6 hq, iO hq, iL hq, sL4 hq, sL5 hq, sL6 hq, r1]
    simp only [s15_7, s15_7n, s15_8, Option.bind_some, Option.bind_none, Option.toList_some, Option.toList_none, List.nil_append, List.cons_append, ↓reduceIte, reduceCtorEq, cl1_i, cl1_r, cl1_n, cl1_0, cl1_J, okS_0, okS_1, okS_2, okS_3, okS_4, bB_0, bB_and, z_0, z_1, z_10, bB_t, bB_f, Bool.true_eq_false, Bool.false_eq_true, gT0, gT1, gT2, gT3, gT4, gT5, gT6, gF0, gF1, gF2, gF3, gF4, gS0, gS1, gC0, gC1, iT, iF, iS, iC, sT6_0, sT6_1, sF2, sF3, sF4_0, sF4_1, sS1, sC1, gO0 hq, gO1 hq, gO2 hq, gO3 hq, gL0 hq, gL1 hq, gL2 hq, gL3 hq, gL4 hq, gL5 hq, gL6 hq, iO hq, iL hq, sL4 hq, sL5 hq, sL6 hq, c14 hB hq, ha, ho]
    simp only [s15_11, s15_12, s15_13, s15_14, s15_15, Option.bind_some, Option.bind_none, Option.toList_some, Option.toList_none, List.nil_append, List.cons_append, ↓reduceIte, reduceCtorEq, cl1_i, cl1_r, cl1_n, cl1_0, cl1_J, okS_0, okS_1, okS_2, okS_3, okS_4, bB_0, bB_and, z_0, z_1, z_10, bB_t, bB_f, Bool.true_eq_false, Bool.false_eq_true, gT0, gT1, gT2, gT3, gT4, gT5, gT6, gF0, gF1, gF2, gF3, gF4, gS0, gS1, gC0, gC1, iT, iF, iS, iC, sT6_0, sT6_1, sF2, sF3, sF4_0, sF4_1, sS1, sC1]
    exact r3
end LOAD
