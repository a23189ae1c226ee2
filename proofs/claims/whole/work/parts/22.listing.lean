/-! ===== Listing: entries (name, kind, argument, bytes as a number), and a mark ===== -/
abbrev En : Type := Nat × Nat × Nat × Int64
def enPr (e : En) : Int32 := if e.2.1 = 2 then nI e.2.2.1 else -1
def enLn (e : En) : Int32 := if e.2.1 = 2 then 0 else nI e.2.2.1
/-- a good entry -/
def OkE (e : En) : Prop := 1 ≤ e.1 ∧ e.1 ≤ 99 ∧ ((e.2.1 = 1 ∧ e.2.2.1 ≤ 6) ∨ (e.2.1 = 2 ∧ e.2.2.1 < 8 ∧ e.2.2.2 = 0))
def LiM (L : LiS) (mk : Option (Nat × Nat)) : Prop := match mk with
  | none => L.2.2.2.2.2.1 = -1
  | some p => L.2.2.2.2.2.1 = nI p.1 ∧ L.2.2.2.2.2.2 = nI p.2
def LiE (L : LiS) (k : Nat) (e : En) : Prop := L.1 k = nI e.1 ∧ L.2.1 k = enPr e ∧ L.2.2.1 k = enLn e ∧ L.2.2.2.1 k = e.2.2.2
def LiR (L : LiS) (es : List En) (mk : Option (Nat × Nat)) : Prop := es.length ≤ 4 ∧ L.2.2.2.2.1 = nI es.length ∧ (∀ (k : Nat) (e : En), es[k]? = some e → LiE L k e ∧ OkE e) ∧ LiM L mk
def fiA : List En → Nat → Int32 → Option Nat
  | [], _, _ => none
  | e :: t, k, x => if nI e.1 = x then some k else fiA t (k + 1) x
def fiE (es : List En) (x : Int32) : Option Nat := fiA es 0 x
def oI (o : Option Nat) : Int32 := match o with
  | none => -1
  | some k => nI k
def eAt (es : List En) (k : Int32) : Option En := if inB k es.length = true then es[k.toNatClampNeg]? else none
theorem dropC {es t : List En} {e : En} {k : Nat} (h : es.drop k = e :: t) : k < es.length ∧ es[k]? = some e ∧ es.drop (k + 1) = t := by
  have h1 : k < es.length := by
    rcases Nat.lt_or_ge k es.length with q | q
    · exact q
    · rw [List.drop_eq_nil_of_le q] at h; cases h
  rw [List.drop_eq_getElem_cons h1] at h
  simp only [List.cons.injEq] at h
  exact ⟨h1, by rw [List.getElem?_eq_getElem h1, h.1], h.2⟩
theorem m1_nI {k : Nat} (h : k < 2 ^ 31) : ¬ nI k = -1 := by
  intro q
  have := nI_toInt h
  rw [q] at this
  have e : (-1 : Int32).toInt = -1 := by decide
  omega
theorem m1_nI' {k : Nat} (h : k < 2 ^ 31) : ((nI k : Int32) = -1) = False := by simp [m1_nI h]
theorem fiA_lt : ∀ (t : List En) (k : Nat) (x : Int32) (i : Nat), fiA t k x = some i → k ≤ i ∧ i < k + t.length ∧ ∃ e, t[i - k]? = some e ∧ nI e.1 = x := by
  intro t
  induction t with
  | nil => intro k x i h; cases h
  | cons e t ih =>
    intro k x i h
    unfold fiA at h
    split at h
    · rename_i hx
      cases h
      exact ⟨Nat.le_refl _, by simp, e, by simp, hx⟩
    · obtain ⟨h1, h2, e', h3, h4⟩ := ih (k + 1) x i h
      refine ⟨by omega, by simp; omega, e', ?_, h4⟩
      rw [show i - k = (i - (k + 1)) + 1 by omega, List.getElem?_cons_succ]
      exact h3
theorem fiE_lt {es : List En} {x : Int32} {i : Nat} (h : fiE es x = some i) : i < es.length ∧ ∃ e, es[i]? = some e ∧ nI e.1 = x := by
  obtain ⟨-, h2, e, h3, h4⟩ := fiA_lt es 0 x i h
  exact ⟨by omega, e, by simpa using h3, h4⟩
section LIST
variable {sc : AC} {F : FlS} {s c : OpS} {th be qu : Nat → Int32} {mo : Int32} {li : Nat → LiS} {mm : AH} {q : Nat} {es : List En} {mk : Option (Nat × Nat)}
theorem c24 (hq : q < 8) : ∃ l', RunM 24 [.ref (14 + 6 * q)] (hp sc F s c th be qu mo li mm) = some (none, hp sc F s c th be qu mo (upL li q l') mm) ∧ LiR l' [] none := by
  refine ⟨((li q).1, (li q).2.1, (li q).2.2.1, (li q).2.2.2.1, 0, -1, (li q).2.2.2.2.2.2), ?_, by simp, nI_0.symm, fun k e h => by simp at h, rfl⟩
  simp only [e24, s24_0, s24_0n, s24_1, s24_2, s24_5, s24_5n, s24_6, s24_7, s24_10, Option.bind_some, Option.bind_none, Option.toList_some, Option.toList_none, List.nil_append, List.cons_append, ↓reduceIte, reduceCtorEq, cl1_i, cl1_r, cl1_n, cl1_0, cl1_J, okS_0, okS_1, okS_2, okS_3, okS_4, bB_0, bB_and, z_0, z_1, z_10, bB_t, bB_f, Bool.true_eq_false, Bool.false_eq_true, gT0, gT1, gT2, gT3, gT4, gT5, gT6, gF0, gF1, gF2, gF3, gF4, gS0, gS1, gC0, gC1, iT, iF, iS, iC, sT6_0, sT6_1, sF2, sF3, sF4_0, sF4_1, sS1, sC1, gO0 hq, gO1 hq, gO2 hq, gO3 hq, gL0 hq, gL1 hq, gL2 hq, gL3 hq, gL4 hq, gL5 hq, gL6 hq, iO hq, iL hq, sL4 hq, sL5 hq, sL6 hq, upL_self, upL_up]
theorem c25 (hq : q < 8) (hL : LiR (li q) es mk) : RunM 25 [.ref (14 + 6 * q)] (hp sc F s c th be qu mo li mm) = some (some (.int (bB (decide (es = [])))), hp sc F s c th be qu mo li mm) := by
  have h4 := hL.1
  simp only [e25, s25_0, s25_0n, s25_1, s25_4, s25_7, s25_8, s25_11, s25_12, Option.bind_some, Option.bind_none, Option.toList_some, Option.toList_none, List.nil_append, List.cons_append, ↓reduceIte, reduceCtorEq, cl1_i, cl1_r, cl1_n, cl1_0, cl1_J, okS_0, okS_1, okS_2, okS_3, okS_4, bB_0, bB_and, z_0, z_1, z_10, bB_t, bB_f, Bool.true_eq_false, Bool.false_eq_true, gT0, gT1, gT2, gT3, gT4, gT5, gT6, gF0, gF1, gF2, gF3, gF4, gS0, gS1, gC0, gC1, iT, iF, iS, iC, sT6_0, sT6_1, sF2, sF3, sF4_0, sF4_1, sS1, sC1, gO0 hq, gO1 hq, gO2 hq, gO3 hq, gL0 hq, gL1 hq, gL2 hq, gL3 hq, gL4 hq, gL5 hq, gL6 hq, iO hq, iL hq, sL4 hq, sL5 hq, sL6 hq, hL.2.1]
  cases es with
  | nil => rfl
  | cons e t =>
    rw [if_neg (nI_ne0 (by simp) (by omega))]
    rfl
theorem c26 (hq : q < 8) (hL : LiR (li q) es mk) : RunM 26 [.ref (14 + 6 * q)] (hp sc F s c th be qu mo li mm) = some (some (.int (bB (decide (es.length = 4)))), hp sc F s c th be qu mo li mm) := by
  have h4 := hL.1
  simp only [e26, s26_0, s26_0n, s26_1, s26_4, s26_5, s26_8, s26_9, s26_12, s26_13, Option.bind_some, Option.bind_none, Option.toList_some, Option.toList_none, List.nil_append, List.cons_append, ↓reduceIte, reduceCtorEq, cl1_i, cl1_r, cl1_n, cl1_0, cl1_J, okS_0, okS_1, okS_2, okS_3, okS_4, bB_0, bB_and, z_0, z_1, z_10, bB_t, bB_f, Bool.true_eq_false, Bool.false_eq_true, gT0, gT1, gT2, gT3, gT4, gT5, gT6, gF0, gF1, gF2, gF3, gF4, gS0, gS1, gC0, gC1, iT, iF, iS, iC, sT6_0, sT6_1, sF2, sF3, sF4_0, sF4_1, sS1, sC1, gO0 hq, gO1 hq, gO2 hq, gO3 hq, gL0 hq, gL1 hq, gL2 hq, gL3 hq, gL4 hq, gL5 hq, gL6 hq, iO hq, iL hq, sL4 hq, sL5 hq, sL6 hq, hL.2.1]
  by_cases h : es.length = 4
  · rw [h]; rfl
  · rw [if_pos (show nI es.length < 4 from nI_lit (k := 4) (by omega) (by decide)), decide_eq_false h]
    rfl
theorem c27 (hq : q < 8) (hL : LiR (li q) es mk) (hm : ∀ p, mk = some p → p.1 < 8) : RunM 27 [.ref (14 + 6 * q)] (hp sc F s c th be qu mo li mm) = some (some (.int (bB mk.isSome)), hp sc F s c th be qu mo li mm) := by
  have h4 := hL.2.2.2
  cases mk with
  | none =>
    have h5 : (li q).2.2.2.2.2.1 = -1 := h4
    simp only [e27, s27_0, s27_0n, s27_1, s27_4, s27_5, s27_8, s27_9, s27_12, s27_13, Option.bind_some, Option.bind_none, Option.toList_some, Option.toList_none, List.nil_append, List.cons_append, ↓reduceIte, reduceCtorEq, cl1_i, cl1_r, cl1_n, cl1_0, cl1_J, okS_0, okS_1, okS_2, okS_3, okS_4, bB_0, bB_and, z_0, z_1, z_10, bB_t, bB_f, Bool.true_eq_false, Bool.false_eq_true, gT0, gT1, gT2, gT3, gT4, gT5, gT6, gF0, gF1, gF2, gF3, gF4, gS0, gS1, gC0, gC1, iT, iF, iS, iC, sT6_0, sT6_1, sF2, sF3, sF4_0, sF4_1, sS1, sC1, gO0 hq, gO1 hq, gO2 hq, gO3 hq, gL0 hq, gL1 hq, gL2 hq, gL3 hq, gL4 hq, gL5 hq, gL6 hq, iO hq, iL hq, sL4 hq, sL5 hq, sL6 hq, h5]
    rfl
  | some p =>
    have h5 : (li q).2.2.2.2.2.1 = nI p.1 := h4.1
    simp only [e27, s27_0, s27_0n, s27_1, s27_4, s27_5, s27_8, s27_9, s27_12, s27_13, Option.bind_some, Option.bind_none, Option.toList_some, Option.toList_none, List.nil_append, List.cons_append, ↓reduceIte, reduceCtorEq, cl1_i, cl1_r, cl1_n, cl1_0, cl1_J, okS_0, okS_1, okS_2, okS_3, okS_4, bB_0, bB_and, z_0, z_1, z_10, bB_t, bB_f, Bool.true_eq_false, Bool.false_eq_true, gT0, gT1, gT2, gT3, gT4, gT5, gT6, gF0, gF1, gF2, gF3, gF4, gS0, gS1, gC0, gC1, iT, iF, iS, iC, sT6_0, sT6_1, sF2, sF3, sF4_0, sF4_1, sS1, sC1, gO0 hq, gO1 hq, gO2 hq, gO3 hq, gL0 hq, gL1 hq, gL2 hq, gL3 hq, gL4 hq, gL5 hq, gL6 hq, iO hq, iL hq, sL4 hq, sL5 hq, sL6 hq, h5, m1_nI' (show p.1 < 2 ^ 31 by have := hm p rfl; omega)]
    rfl
theorem c28_loop (hq : q < 8) (hL : LiR (li q) es mk) {x : Int32} : ∀ (t : List En) (k : Nat), k ≤ es.length → es.drop k = t → Run 28 2 [some (.ref (14 + 6 * q)), some (.int x), some (.int (nI k))] [] (hp sc F s c th be qu mo li mm) = some (some (.int (oI (fiA t k x))), hp sc F s c th be qu mo li mm) := by
  have h4 := hL.1
  intro t
  induction t with
  | nil =>
    intro k hk h
    have h5 : es.length ≤ k := List.drop_eq_nil_iff.mp h
    have h3 : ¬ nI k < nI es.length := nI_nlt h5 (by omega)
    simp only [s28_2, s28_3, s28_3n, s28_4, s28_7, s28_33, s28_34, Option.bind_some, Option.bind_none, Option.toList_some, Option.toList_none, List.nil_append, List.cons_append, ↓reduceIte, reduceCtorEq, cl1_i, cl1_r, cl1_n, cl1_0, cl1_J, okS_0, okS_1, okS_2, okS_3, okS_4, bB_0, bB_and, z_0, z_1, z_10, bB_t, bB_f, Bool.true_eq_false, Bool.false_eq_true, gT0, gT1, gT2, gT3, gT4, gT5, gT6, gF0, gF1, gF2, gF3, gF4, gS0, gS1, gC0, gC1, iT, iF, iS, iC, sT6_0, sT6_1, sF2, sF3, sF4_0, sF4_1, sS1, sC1, gO0 hq, gO1 hq, gO2 hq, gO3 hq, gL0 hq, gL1 hq, gL2 hq, gL3 hq, gL4 hq, gL5 hq, gL6 hq, iO hq, iL hq, sL4 hq, sL5 hq, sL6 hq, hL.2.1, h3]
    rfl
  | cons e t ih =>
    intro k hk h
    obtain ⟨h5, h6, h7⟩ := dropC h
    have h3 : nI k < nI es.length := nI_lt h5 (by omega)
    have h8 : nI k < 4 := nI_lit (k := 4) (by omega) (by decide)
    have h9 := (hL.2.2.1 k e h6).1.1
    simp only [s28_2, s28_3, s28_3n, s28_4, s28_7, s28_10, s28_11, s28_12, s28_15, s28_15n, s28_16, s28_19, s28_20, s28_21, s28_22, Option.bind_some, Option.bind_none, Option.toList_some, Option.toList_none, List.nil_append, List.cons_append, ↓reduceIte, reduceCtorEq, cl1_i, cl1_r, cl1_n, cl1_0, cl1_J, okS_0, okS_1, okS_2, okS_3, okS_4, bB_0, bB_and, z_0, z_1, z_10, bB_t, bB_f, Bool.true_eq_false, Bool.false_eq_true, gT0, gT1, gT2, gT3, gT4, gT5, gT6, gF0, gF1, gF2, gF3, gF4, gS0, gS1, gC0, gC1, iT, iF, iS, iC, sT6_0, sT6_1, sF2, sF3, sF4_0, sF4_1, sS1, sC1, gO0 hq, gO1 hq, gO2 hq, gO3 hq, gL0 hq, gL1 hq, gL2 hq, gL3 hq, gL4 hq, gL5 hq, gL6 hq, iO hq, iL hq, sL4 hq, sL5 hq, sL6 hq, hL.2.1, h3, h8, aN hq (inB_nI (show k < 4 by omega) (by decide)), nI_clamp (show k < 2 ^ 31 by omega), h9]
    unfold fiA
    by_cases hx : nI e.1 = x
    · rw [if_pos hx, if_pos hx]
      simp only [s28_25, s28_26, Option.bind_some, Option.bind_none, Option.toList_some, Option.toList_none, List.nil_append, List.cons_append, ↓reduceIte, reduceCtorEq, cl1_i, cl1_r, cl1_n, cl1_0, cl1_J, okS_0, okS_1, okS_2, okS_3, okS_4, bB_0, bB_and, z_0, z_1, z_10, bB_t, bB_f, Bool.true_eq_false, Bool.false_eq_true, gT0, gT1, gT2, gT3, gT4, gT5, gT6, gF0, gF1, gF2, gF3, gF4, gS0, gS1, gC0, gC1, iT, iF, iS, iC, sT6_0, sT6_1, sF2, sF3, sF4_0, sF4_1, sS1, sC1]
      rfl
    · rw [if_neg hx, if_neg hx]
      simp only [s28_27, s28_30, Option.bind_some, Option.bind_none, Option.toList_some, Option.toList_none, List.nil_append, List.cons_append, ↓reduceIte, reduceCtorEq, cl1_i, cl1_r, cl1_n, cl1_0, cl1_J, okS_0, okS_1, okS_2, okS_3, okS_4, bB_0, bB_and, z_0, z_1, z_10, bB_t, bB_f, Bool.true_eq_false, Bool.false_eq_true, gT0, gT1, gT2, gT3, gT4, gT5, gT6, gF0, gF1, gF2, gF3, gF4, gS0, gS1, gC0, gC1, iT, iF, iS, iC, sT6_0, sT6_1, sF2, sF3, sF4_0, sF4_1, sS1, sC1, nI_1]
      exact ih (k + 1) h5 h7
theorem c28 (hq : q < 8) (hL : LiR (li q) es mk) {x : Int32} : RunM 28 [.ref (14 + 6 * q), .int x] (hp sc F s c th be qu mo li mm) = some (some (.int (oI (fiE es x))), hp sc F s c th be qu mo li mm) := by
  simp only [e28, s28_0, s28_1, Option.bind_some, Option.bind_none, Option.toList_some, Option.toList_none, List.nil_append, List.cons_append, ↓reduceIte, reduceCtorEq, cl1_i, cl1_r, cl1_n, cl1_0, cl1_J, okS_0, okS_1, okS_2, okS_3, okS_4, bB_0, bB_and, z_0, z_1, z_10, bB_t, bB_f, Bool.true_eq_false, Bool.false_eq_true, gT0, gT1, gT2, gT3, gT4, gT5, gT6, gF0, gF1, gF2, gF3, gF4, gS0, gS1, gC0, gC1, iT, iF, iS, iC, sT6_0, sT6_1, sF2, sF3, sF4_0, sF4_1, sS1, sC1]
  have := c28_loop (sc := sc) (F := F) (s := s) (c := c) (th := th) (be := be) (qu := qu) (mo := mo) (mm := mm) hq hL (x := x) es 0 (Nat.zero_le _) rfl
  rw [nI_0] at this
  exact this
theorem c41 (hq : q < 8) (hL : LiR (li q) es mk) {k : Int32} : RunM 41 [.ref (14 + 6 * q), .int k] (hp sc F s c th be qu mo li mm) = some (some (.int (bB (inB k es.length))), hp sc F s c th be qu mo li mm) := by
  have h4 := hL.1
  have hl : (nI es.length).toInt = es.length := nI_toInt (by omega)
  simp only [e41, s41_0, s41_1, s41_4, s41_5, s41_5n, s41_6, s41_9, s41_12, s41_13, s41_14, s41_17, s41_18, s41_21, s41_22, Option.bind_some, Option.bind_none, Option.toList_some, Option.toList_none, List.nil_append, List.cons_append, ↓reduceIte, reduceCtorEq, cl1_i, cl1_r, cl1_n, cl1_0, cl1_J, okS_0, okS_1, okS_2, okS_3, okS_4, bB_0, bB_and, z_0, z_1, z_10, bB_t, bB_f, Bool.true_eq_false, Bool.false_eq_true, gT0, gT1, gT2, gT3, gT4, gT5, gT6, gF0, gF1, gF2, gF3, gF4, gS0, gS1, gC0, gC1, iT, iF, iS, iC, sT6_0, sT6_1, sF2, sF3, sF4_0, sF4_1, sS1, sC1, gO0 hq, gO1 hq, gO2 hq, gO3 hq, gL0 hq, gL1 hq, gL2 hq, gL3 hq, gL4 hq, gL5 hq, gL6 hq, iO hq, iL hq, sL4 hq, sL5 hq, sL6 hq, hL.2.1]
  by_cases h1 : k < 0
  · rw [if_pos h1, inB_f1 h1]; rfl
  · by_cases h2 : k < nI es.length
    · have h3 : k < 4 := by
        rw [Int32.lt_iff_toInt_lt] at h2 ⊢
        have : (4 : Int32).toInt = 4 := by decide
        omega
      rw [if_neg h1, if_pos h2, if_pos h3, inB_t hl h1 h2]; rfl
    · rw [if_neg h1, if_neg h2, inB_f2 hl h2]; rfl
theorem in4 {k : Int32} (h4 : es.length ≤ 4) (h : inB k es.length = true) : inB k 4 = true := by
  obtain ⟨j, hj, rfl⟩ := inB_of h (by omega)
  exact inB_nI (by omega) (by decide)
theorem eAt_some {k : Int32} {e : En} (h : eAt es k = some e) : inB k es.length = true ∧ es[k.toNatClampNeg]? = some e := by
  unfold eAt at h
  split at h
  · rename_i h1; exact ⟨h1, h⟩
  · cases h
theorem eAt_none {k : Int32} (h4 : es.length ≤ 4) (h : eAt es k = none) : inB k es.length = false := by
  unfold eAt at h
  split at h
  · rename_i h1
    obtain ⟨j, hj, rfl⟩ := inB_of h1 (by omega)
    rw [nI_clamp (by omega), List.getElem?_eq_getElem hj] at h
    cases h
  · rename_i h1
    simpa using h1
theorem eAt_nI {k : Nat} (h4 : es.length ≤ 4) (h : k < es.length) : eAt es (nI k) = es[k]? := by
  unfold eAt
  rw [if_pos (inB_nI h (by omega)), nI_clamp (by omega)]
theorem eAt_m1 : eAt es (-1) = none := by
  unfold eAt
  rw [if_neg]
  rw [inB_f1 (by decide)]
  decide
theorem eAt_oI {x : Int32} (h4 : es.length ≤ 4) : eAt es (oI (fiE es x)) = (fiE es x).bind fun k => es[k]? := by
  cases h : fiE es x with
  | none => exact eAt_m1
  | some k => exact eAt_nI h4 (fiE_lt h).1
theorem c31 (hq : q < 8) (hL : LiR (li q) es mk) {k : Int32} : RunM 31 [.ref (14 + 6 * q), .int k] (hp sc F s c th be qu mo li mm) = some (some (.int ((eAt es k).elim 0 fun e => nI e.1)), hp sc F s c th be qu mo li mm) := by
  cases h : eAt es k with
  | none => simp only [e31, s31_0, s31_0n, s31_1, s31_2, s31_5, s31_8, s31_8n, s31_9, s31_12, s31_13, s31_14, s31_17, s31_18, Option.bind_some, Option.bind_none, Option.toList_some, Option.toList_none, List.nil_append, List.cons_append, ↓reduceIte, reduceCtorEq, cl1_i, cl1_r, cl1_n, cl1_0, cl1_J, okS_0, okS_1, okS_2, okS_3, okS_4, bB_0, bB_and, z_0, z_1, z_10, bB_t, bB_f, Bool.true_eq_false, Bool.false_eq_true, gT0, gT1, gT2, gT3, gT4, gT5, gT6, gF0, gF1, gF2, gF3, gF4, gS0, gS1, gC0, gC1, iT, iF, iS, iC, sT6_0, sT6_1, sF2, sF3, sF4_0, sF4_1, sS1, sC1, gO0 hq, gO1 hq, gO2 hq, gO3 hq, gL0 hq, gL1 hq, gL2 hq, gL3 hq, gL4 hq, gL5 hq, gL6 hq, iO hq, iL hq, sL4 hq, sL5 hq, sL6 hq, c41 hq hL, eAt_none hL.1 h, Option.elim_none]
  | some e =>
    obtain ⟨h1, h2⟩ := eAt_some h
    simp only [e31, s31_0, s31_0n, s31_1, s31_2, s31_5, s31_8, s31_8n, s31_9, s31_12, s31_13, s31_14, s31_17, s31_18, Option.bind_some, Option.bind_none, Option.toList_some, Option.toList_none, List.nil_append, List.cons_append, ↓reduceIte, reduceCtorEq, cl1_i, cl1_r, cl1_n, cl1_0, cl1_J, okS_0, okS_1, okS_2, okS_3, okS_4, bB_0, bB_and, z_0, z_1, z_10, bB_t, bB_f, Bool.true_eq_false, Bool.false_eq_true, gT0, gT1, gT2, gT3, gT4, gT5, gT6, gF0, gF1, gF2, gF3, gF4, gS0, gS1, gC0, gC1, iT, iF, iS, iC, sT6_0, sT6_1, sF2, sF3, sF4_0, sF4_1, sS1, sC1, gO0 hq, gO1 hq, gO2 hq, gO3 hq, gL0 hq, gL1 hq, gL2 hq, gL3 hq, gL4 hq, gL5 hq, gL6 hq, iO hq, iL hq, sL4 hq, sL5 hq, sL6 hq, c41 hq hL, h1, aN hq (in4 hL.1 h1), (hL.2.2.1 _ e h2).1.1, Option.elim_some]
theorem c32 (hq : q < 8) (hL : LiR (li q) es mk) {k : Int32} : RunM 32 [.ref (14 + 6 * q), .int k] (hp sc F s c th be qu mo li mm) = some (some (.int ((eAt es k).elim (-1) enPr)), hp sc F s c th be qu mo li mm) := by
  cases h : eAt es k with
  | none => simp only [e32, s32_0, s32_0n, s32_1, s32_2, s32_5, s32_8, s32_8n, s32_9, s32_12, s32_13, s32_14, s32_17, s32_18, Option.bind_some, Option.bind_none, Option.toList_some, Option.toList_none, List.nil_append, List.cons_append, ↓reduceIte, reduceCtorEq, cl1_i, cl1_r, cl1_n, cl1_0, cl1_J, okS_0, okS_1, okS_2, okS_3, okS_4, bB_0, bB_and, z_0, z_1, z_10, bB_t, bB_f, Bool.true_eq_false, Bool.false_eq_true, gT0, gT1, gT2, gT3, gT4, gT5, gT6, gF0, gF1, gF2, gF3, gF4, gS0, gS1, gC0, gC1, iT, iF, iS, iC, sT6_0, sT6_1, sF2, sF3, sF4_0, sF4_1, sS1, sC1, gO0 hq, gO1 hq, gO2 hq, gO3 hq, gL0 hq, gL1 hq, gL2 hq, gL3 hq, gL4 hq, gL5 hq, gL6 hq, iO hq, iL hq, sL4 hq, sL5 hq, sL6 hq, c41 hq hL, eAt_none hL.1 h, Option.elim_none]
  | some e =>
    obtain ⟨h1, h2⟩ := eAt_some h
    simp only [e32, s32_0, s32_0n, s32_1, s32_2, s32_5, s32_8, s32_8n, s32_9, s32_12, s32_13, s32_14, s32_17, s32_18, Option.bind_some, Option.bind_none, Option.toList_some, Option.toList_none, List.nil_append, List.cons_append, ↓reduceIte, reduceCtorEq, cl1_i, cl1_r, cl1_n, cl1_0, cl1_J, okS_0, okS_1, okS_2, okS_3, okS_4, bB_0, bB_and, z_0, z_1, z_10, bB_t, bB_f, Bool.true_eq_false, Bool.false_eq_true, gT0, gT1, gT2, gT3, gT4, gT5, gT6, gF0, gF1, gF2, gF3, gF4, gS0, gS1, gC0, gC1, iT, iF, iS, iC, sT6_0, sT6_1, sF2, sF3, sF4_0, sF4_1, sS1, sC1, gO0 hq, gO1 hq, gO2 hq, gO3 hq, gL0 hq, gL1 hq, gL2 hq, gL3 hq, gL4 hq, gL5 hq, gL6 hq, iO hq, iL hq, sL4 hq, sL5 hq, sL6 hq, c41 hq hL, h1, aP hq (in4 hL.1 h1), (hL.2.2.1 _ e h2).1.2.1, Option.elim_some]
theorem c33 (hq : q < 8) (hL : LiR (li q) es mk) {k : Int32} : RunM 33 [.ref (14 + 6 * q), .int k] (hp sc F s c th be qu mo li mm) = some (some (.int ((eAt es k).elim 0 enLn)), hp sc F s c th be qu mo li mm) := by
  cases h : eAt es k with
  | none => simp only [e33, s33_0, s33_0n, s33_1, s33_2, s33_5, s33_8, s33_8n, s33_9, s33_12, s33_13, s33_14, s33_17, s33_18, Option.bind_some, Option.bind_none, Option.toList_some, Option.toList_none, List.nil_append, List.cons_append, ↓reduceIte, reduceCtorEq, cl1_i, cl1_r, cl1_n, cl1_0, cl1_J, okS_0, okS_1, okS_2, okS_3, okS_4, bB_0, bB_and, z_0, z_1, z_10, bB_t, bB_f, Bool.true_eq_false, Bool.false_eq_true, gT0, gT1, gT2, gT3, gT4, gT5, gT6, gF0, gF1, gF2, gF3, gF4, gS0, gS1, gC0, gC1, iT, iF, iS, iC, sT6_0, sT6_1, sF2, sF3, sF4_0, sF4_1, sS1, sC1, gO0 hq, gO1 hq, gO2 hq, gO3 hq, gL0 hq, gL1 hq, gL2 hq, gL3 hq, gL4 hq, gL5 hq, gL6 hq, iO hq, iL hq, sL4 hq, sL5 hq, sL6 hq, c41 hq hL, eAt_none hL.1 h, Option.elim_none]
  | some e =>
    obtain ⟨h1, h2⟩ := eAt_some h
    simp only [e33, s33_0, s33_0n, s33_1, s33_2, s33_5, s33_8, s33_8n, s33_9, s33_12, s33_13, s33_14, s33_17, s33_18, Option.bind_some, Option.bind_none, Option.toList_some, Option.toList_none, List.nil_append, List.cons_append, ↓reduceIte, reduceCtorEq, cl1_i, cl1_r, cl1_n, cl1_0, cl1_J, okS_0, okS_1, okS_2, okS_3, okS_4, bB_0, bB_and, z_0, z_1, z_10, bB_t, bB_f, Bool.true_eq_false, Bool.false_eq_true, gT0, gT1, gT2, gT3, gT4, gT5, gT6, gF0, gF1, gF2, gF3, gF4, gS0, gS1, gC0, gC1, iT, iF, iS, iC, sT6_0, sT6_1, sF2, sF3, sF4_0, sF4_1, sS1, sC1, gO0 hq, gO1 hq, gO2 hq, gO3 hq, gL0 hq, gL1 hq, gL2 hq, gL3 hq, gL4 hq, gL5 hq, gL6 hq, iO hq, iL hq, sL4 hq, sL5 hq, sL6 hq, c41 hq hL, h1, aG hq (in4 hL.1 h1), (hL.2.2.1 _ e h2).1.2.2.1, Option.elim_some]
theorem c34 (hq : q < 8) (hL : LiR (li q) es mk) {k : Int32} : RunM 34 [.ref (14 + 6 * q), .int k] (hp sc F s c th be qu mo li mm) = some (some (.long ((eAt es k).elim 0 fun e => e.2.2.2)), hp sc F s c th be qu mo li mm) := by
  cases h : eAt es k with
  | none => simp only [e34, s34_0, s34_0n, s34_1, s34_2, s34_5, s34_8, s34_8n, s34_9, s34_12, s34_13, s34_14, s34_17, s34_18, Option.bind_some, Option.bind_none, Option.toList_some, Option.toList_none, List.nil_append, List.cons_append, ↓reduceIte, reduceCtorEq, cl1_i, cl1_r, cl1_n, cl1_0, cl1_J, okS_0, okS_1, okS_2, okS_3, okS_4, bB_0, bB_and, z_0, z_1, z_10, bB_t, bB_f, Bool.true_eq_false, Bool.false_eq_true, gT0, gT1, gT2, gT3, gT4, gT5, gT6, gF0, gF1, gF2, gF3, gF4, gS0, gS1, gC0, gC1, iT, iF, iS, iC, sT6_0, sT6_1, sF2, sF3, sF4_0, sF4_1, sS1, sC1, gO0 hq, gO1 hq, gO2 hq, gO3 hq, gL0 hq, gL1 hq, gL2 hq, gL3 hq, gL4 hq, gL5 hq, gL6 hq, iO hq, iL hq, sL4 hq, sL5 hq, sL6 hq, c41 hq hL, eAt_none hL.1 h, Option.elim_none]
  | some e =>
    obtain ⟨h1, h2⟩ := eAt_some h
    simp only [e34, s34_0, s34_0n, s34_1, s34_2, s34_5, s34_8, s34_8n, s34_9, s34_12, s34_13, s34_14, s34_17, s34_18, Option.bind_some, Option.bind_none, Option.toList_some, Option.toList_none, List.nil_append, List.cons_append, ↓reduceIte, reduceCtorEq, cl1_i, cl1_r, cl1_n, cl1_0, cl1_J, okS_0, okS_1, okS_2, okS_3, okS_4, bB_0, bB_and, z_0, z_1, z_10, bB_t, bB_f, Bool.true_eq_false, Bool.false_eq_true, gT0, gT1, gT2, gT3, gT4, gT5, gT6, gF0, gF1, gF2, gF3, gF4, gS0, gS1, gC0, gC1, iT, iF, iS, iC, sT6_0, sT6_1, sF2, sF3, sF4_0, sF4_1, sS1, sC1, gO0 hq, gO1 hq, gO2 hq, gO3 hq, gL0 hq, gL1 hq, gL2 hq, gL3 hq, gL4 hq, gL5 hq, gL6 hq, iO hq, iL hq, sL4 hq, sL5 hq, sL6 hq, c41 hq hL, h1, aJ hq (in4 hL.1 h1), (hL.2.2.1 _ e h2).1.2.2.2, Option.elim_some]
/-- is entry k a folder -/
def isFo (es : List En) (k : Int32) : Bool := (eAt es k).elim false fun e => decide (e.2.1 = 2)
theorem enPr_m1 {e : En} (h : OkE e) : (enPr e = -1) = (e.2.1 = 1) := by
  obtain ⟨-, -, h | h⟩ := h
  · simp [enPr, h.1]
  · rw [enPr, if_pos h.1]
    simp only [h.1, m1_nI' (show e.2.2.1 < 2 ^ 31 by omega)]
    simp
theorem c30 (hq : q < 8) (hL : LiR (li q) es mk) {k : Int32} : RunM 30 [.ref (14 + 6 * q), .int k] (hp sc F s c th be qu mo li mm) = some (some (.int (bB (isFo es k))), hp sc F s c th be qu mo li mm) := by
  simp only [e30, s30_0, s30_0n, s30_1, s30_2, s30_5, s30_6, s30_9, s30_10, s30_13, s30_14, Option.bind_some, Option.bind_none, Option.toList_some, Option.toList_none, List.nil_append, List.cons_append, ↓reduceIte, reduceCtorEq, cl1_i, cl1_r, cl1_n, cl1_0, cl1_J, okS_0, okS_1, okS_2, okS_3, okS_4, bB_0, bB_and, z_0, z_1, z_10, bB_t, bB_f, Bool.true_eq_false, Bool.false_eq_true, gT0, gT1, gT2, gT3, gT4, gT5, gT6, gF0, gF1, gF2, gF3, gF4, gS0, gS1, gC0, gC1, iT, iF, iS, iC, sT6_0, sT6_1, sF2, sF3, sF4_0, sF4_1, sS1, sC1, gO0 hq, gO1 hq, gO2 hq, gO3 hq, gL0 hq, gL1 hq, gL2 hq, gL3 hq, gL4 hq, gL5 hq, gL6 hq, iO hq, iL hq, sL4 hq, sL5 hq, sL6 hq, c32 hq hL]
  unfold isFo
  cases h : eAt es k with
  | none => simp only [Option.elim_none]; rfl
  | some e =>
    obtain ⟨h1, h2⟩ := eAt_some h
    have hok := (hL.2.2.1 _ e h2).2
    simp only [Option.elim_some, enPr_m1 hok]
    obtain ⟨-, -, h | h⟩ := hok
    · rw [if_pos h.1, h.1]; rfl
    · rw [if_neg (by omega), h.1]; rfl
/-- the place of a file of that name -/
def fiF (es : List En) (x : Int32) : Int32 := if isFo es (oI (fiE es x)) = true then -1 else oI (fiE es x)
theorem c29 (hq : q < 8) (hL : LiR (li q) es mk) {x : Int32} : RunM 29 [.ref (14 + 6 * q), .int x] (hp sc F s c th be qu mo li mm) = some (some (.int (fiF es x)), hp sc F s c th be qu mo li mm) := by
  cases h : isFo es (oI (fiE es x)) with
  | true => simp only [e29, s29_0, s29_0n, s29_1, s29_2, s29_5, s29_6, s29_6n, s29_7, s29_8, s29_11, s29_14, s29_15, s29_18, s29_19, Option.bind_some, Option.bind_none, Option.toList_some, Option.toList_none, List.nil_append, List.cons_append, ↓reduceIte, reduceCtorEq, cl1_i, cl1_r, cl1_n, cl1_0, cl1_J, okS_0, okS_1, okS_2, okS_3, okS_4, bB_0, bB_and, z_0, z_1, z_10, bB_t, bB_f, Bool.true_eq_false, Bool.false_eq_true, gT0, gT1, gT2, gT3, gT4, gT5, gT6, gF0, gF1, gF2, gF3, gF4, gS0, gS1, gC0, gC1, iT, iF, iS, iC, sT6_0, sT6_1, sF2, sF3, sF4_0, sF4_1, sS1, sC1, gO0 hq, gO1 hq, gO2 hq, gO3 hq, gL0 hq, gL1 hq, gL2 hq, gL3 hq, gL4 hq, gL5 hq, gL6 hq, iO hq, iL hq, sL4 hq, sL5 hq, sL6 hq, c28 hq hL, c30 hq hL, h, fiF]
  | false => simp only [e29, s29_0, s29_0n, s29_1, s29_2, s29_5, s29_6, s29_6n, s29_7, s29_8, s29_11, s29_14, s29_15, s29_18, s29_19, Option.bind_some, Option.bind_none, Option.toList_some, Option.toList_none, List.nil_append, List.cons_append, ↓reduceIte, reduceCtorEq, cl1_i, cl1_r, cl1_n, cl1_0, cl1_J, okS_0, okS_1, okS_2, okS_3, okS_4, bB_0, bB_and, z_0, z_1, z_10, bB_t, bB_f, Bool.true_eq_false, Bool.false_eq_true, gT0, gT1, gT2, gT3, gT4, gT5, gT6, gF0, gF1, gF2, gF3, gF4, gS0, gS1, gC0, gC1, iT, iF, iS, iC, sT6_0, sT6_1, sF2, sF3, sF4_0, sF4_1, sS1, sC1, gO0 hq, gO1 hq, gO2 hq, gO3 hq, gL0 hq, gL1 hq, gL2 hq, gL3 hq, gL4 hq, gL5 hq, gL6 hq, iO hq, iL hq, sL4 hq, sL5 hq, sL6 hq, c28 hq hL, c30 hq hL, h, fiF]
end LIST
