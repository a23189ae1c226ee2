/-! ===== The calls that read, of the class and of the reference ===== -/
def Sh (Lo : LO) : Prop := (∀ x, Rch (lsO Lo) 0 x → x ≠ 0 → (Lo x).isSome = true) ∧ ∀ x y, Rch (lsO Lo) 0 x → Rch (lsO Lo) 0 y → (lsO Lo x).2 ≠ none → (lsO Lo y).2 ≠ none → x = y
def Mt (f : FB) (Lo : LO) (li : Nat → LiS) (th : Nat → Int32) : Prop := f.2.2.2.2 = false ∧ (Lo 0).isSome = true ∧ (∀ x, Rch (lsO Lo) 0 x → (lsO Lo x).2 = none) ∧ LiA Lo li ∧ ThS Lo th
def INV (sc : AC) (H : AH) : Prop := ∃ (f : FB) (s c : OpS) (th be qu : Nat → Int32) (mt : Bool) (li : Nat → LiS) (jl : Int32) (R : RgS) (O A : OpS) (Lo : LO), H = hp sc (fB f) s c th be qu (bB mt) li (hM (mS f mt jl R O A)) ∧ IX f Lo ∧ Sh Lo ∧ (mt = true → Mt f Lo li th)
/-- behind both calls; between them the heap has its form -/
def IV (sc : AC) (H1 H2 : AH) : Prop := INV sc H2 ∧ ∃ (F : FlS) (s c : OpS) (th be qu : Nat → Int32) (mo : Int32) (li : Nat → LiS) (M : MoS), H1 = hp sc F s c th be qu mo li (hM M)
def Bo (sc : AC) (m1 m2 : Nat) (args : List Value) : Prop := ∀ H, INV sc H → ∃ v H1 H2, RunM m1 (.ref 1 :: args) H = some (v, H1) ∧ RunM m2 (.ref 61 :: args) H1 = some (v, H2) ∧ IV sc H1 H2
def refu (f : FB) (mt : Bool) : Int32 := if f.2.2.2.2 = true then -9 else if mt = true then -1 else -8
section RDC
variable {sc : AC} {f : FB} {s c : OpS} {th be qu : Nat → Int32} {mo : Int32} {li : Nat → LiS} {mm : AH} {Lo : LO} {mt : Bool} {d x y : Int32} {q : Nat} {es : List En} {mk : Option (Nat × Nat)}
theorem c72r : RunM 72 [.ref 1] (hp sc (fB f) s c th be qu (bB mt) li mm) = some (some (.int (refu f mt)), (hp sc (fB f) s c th be qu (bB mt) li mm)) := c72
theorem c78N {F : FlS} (hN : mt = true → ThS Lo th ∧ tIn Lo d = false) : RunM 78 [.ref 1, .int d] (hp sc (F) s c th be qu (bB mt) li mm) = some (some .null, (hp sc (F) s c th be qu (bB mt) li mm)) := by
  cases mt with
  | false => exact c78u
  | true => exact c78n (hN rfl).1 (hN rfl).2
theorem n63 (hN : mt = true → ThS Lo th ∧ tIn Lo d = false) : RunM 63 [.ref 1, .int d, .int x] (hp sc (fB f) s c th be qu (bB mt) li mm) = some (some (.int (refu f mt)), (hp sc (fB f) s c th be qu (bB mt) li mm)) := by
  simp only [e63, s63_0, s63_0n, s63_1, s63_2, s63_5, s63_5n, s63_6, s63_6n, s63_7, s63_7n, s63_10, s63_10n, s63_11, Option.bind_some, Option.bind_none, Option.toList_some, Option.toList_none, List.nil_append, List.cons_append, ↓reduceIte, reduceCtorEq, cl1_i, cl1_r, cl1_n, cl1_0, cl1_J, okS_0, okS_1, okS_2, okS_3, okS_4, bB_0, bB_and, z_0, z_1, z_10, bB_t, bB_f, Bool.true_eq_false, Bool.false_eq_true, gT0, gT1, gT2, gT3, gT4, gT5, gT6, gF0, gF1, gF2, gF3, gF4, gS0, gS1, gC0, gC1, iT, iF, iS, iC, sT6_0, sT6_1, sF2, sF3, sF4_0, sF4_1, sS1, sC1, c78N hN, c72r]
  simp only [s63_14, s63_25, Option.bind_some, Option.bind_none, Option.toList_some, Option.toList_none, List.nil_append, List.cons_append, ↓reduceIte, reduceCtorEq, cl1_i, cl1_r, cl1_n, cl1_0, cl1_J, okS_0, okS_1, okS_2, okS_3, okS_4, bB_0, bB_and, z_0, z_1, z_10, bB_t, bB_f, Bool.true_eq_false, Bool.false_eq_true, gT0, gT1, gT2, gT3, gT4, gT5, gT6, gF0, gF1, gF2, gF3, gF4, gS0, gS1, gC0, gC1, iT, iF, iS, iC, sT6_0, sT6_1, sF2, sF3, sF4_0, sF4_1, sS1, sC1]
theorem n64 (hN : mt = true → ThS Lo th ∧ tIn Lo d = false) : RunM 64 [.ref 1, .int d, .int x] (hp sc (fB f) s c th be qu (bB mt) li mm) = some (some (.int (refu f mt)), (hp sc (fB f) s c th be qu (bB mt) li mm)) := by
  simp only [e64, s64_0, s64_0n, s64_1, s64_2, s64_5, s64_5n, s64_6, s64_6n, s64_7, s64_7n, s64_10, s64_10n, s64_11, Option.bind_some, Option.bind_none, Option.toList_some, Option.toList_none, List.nil_append, List.cons_append, ↓reduceIte, reduceCtorEq, cl1_i, cl1_r, cl1_n, cl1_0, cl1_J, okS_0, okS_1, okS_2, okS_3, okS_4, bB_0, bB_and, z_0, z_1, z_10, bB_t, bB_f, Bool.true_eq_false, Bool.false_eq_true, gT0, gT1, gT2, gT3, gT4, gT5, gT6, gF0, gF1, gF2, gF3, gF4, gS0, gS1, gC0, gC1, iT, iF, iS, iC, sT6_0, sT6_1, sF2, sF3, sF4_0, sF4_1, sS1, sC1, c78N hN, c72r]
  simp only [s64_14, Option.bind_some, Option.bind_none, Option.toList_some, Option.toList_none, List.nil_append, List.cons_append, ↓reduceIte, reduceCtorEq, cl1_i, cl1_r, cl1_n, cl1_0, cl1_J, okS_0, okS_1, okS_2, okS_3, okS_4, bB_0, bB_and, z_0, z_1, z_10, bB_t, bB_f, Bool.true_eq_false, Bool.false_eq_true, gT0, gT1, gT2, gT3, gT4, gT5, gT6, gF0, gF1, gF2, gF3, gF4, gS0, gS1, gC0, gC1, iT, iF, iS, iC, sT6_0, sT6_1, sF2, sF3, sF4_0, sF4_1, sS1, sC1]
theorem n65 (hN : mt = true → ThS Lo th ∧ tIn Lo d = false) : RunM 65 [.ref 1, .int d, .int x] (hp sc (fB f) s c th be qu (bB mt) li mm) = some (some (.int (refu f mt)), (hp sc (fB f) s c th be qu (bB mt) li mm)) := by
  simp only [e65, s65_0, s65_0n, s65_1, s65_2, s65_5, s65_5n, s65_6, s65_6n, s65_7, s65_7n, s65_10, s65_10n, s65_11, Option.bind_some, Option.bind_none, Option.toList_some, Option.toList_none, List.nil_append, List.cons_append, ↓reduceIte, reduceCtorEq, cl1_i, cl1_r, cl1_n, cl1_0, cl1_J, okS_0, okS_1, okS_2, okS_3, okS_4, bB_0, bB_and, z_0, z_1, z_10, bB_t, bB_f, Bool.true_eq_false, Bool.false_eq_true, gT0, gT1, gT2, gT3, gT4, gT5, gT6, gF0, gF1, gF2, gF3, gF4, gS0, gS1, gC0, gC1, iT, iF, iS, iC, sT6_0, sT6_1, sF2, sF3, sF4_0, sF4_1, sS1, sC1, c78N hN, c72r]
  simp only [s65_14, Option.bind_some, Option.bind_none, Option.toList_some, Option.toList_none, List.nil_append, List.cons_append, ↓reduceIte, reduceCtorEq, cl1_i, cl1_r, cl1_n, cl1_0, cl1_J, okS_0, okS_1, okS_2, okS_3, okS_4, bB_0, bB_and, z_0, z_1, z_10, bB_t, bB_f, Bool.true_eq_false, Bool.false_eq_true, gT0, gT1, gT2, gT3, gT4, gT5, gT6, gF0, gF1, gF2, gF3, gF4, gS0, gS1, gC0, gC1, iT, iF, iS, iC, sT6_0, sT6_1, sF2, sF3, sF4_0, sF4_1, sS1, sC1]
theorem n66 (hN : mt = true → ThS Lo th ∧ tIn Lo d = false) : RunM 66 [.ref 1, .int d, .int x] (hp sc (fB f) s c th be qu (bB mt) li mm) = some (some (.long (refu f mt).toInt64), (hp sc (fB f) s c th be qu (bB mt) li mm)) := by
  simp only [e66, s66_0, s66_0n, s66_1, s66_2, s66_5, s66_5n, s66_6, s66_6n, s66_7, s66_7n, s66_10, s66_10n, s66_11, Option.bind_some, Option.bind_none, Option.toList_some, Option.toList_none, List.nil_append, List.cons_append, ↓reduceIte, reduceCtorEq, cl1_i, cl1_r, cl1_n, cl1_0, cl1_J, okS_0, okS_1, okS_2, okS_3, okS_4, bB_0, bB_and, z_0, z_1, z_10, bB_t, bB_f, Bool.true_eq_false, Bool.false_eq_true, gT0, gT1, gT2, gT3, gT4, gT5, gT6, gF0, gF1, gF2, gF3, gF4, gS0, gS1, gC0, gC1, iT, iF, iS, iC, sT6_0, sT6_1, sF2, sF3, sF4_0, sF4_1, sS1, sC1, c78N hN, c72r]
  simp only [s66_14, s66_15, Option.bind_some, Option.bind_none, Option.toList_some, Option.toList_none, List.nil_append, List.cons_append, ↓reduceIte, reduceCtorEq, cl1_i, cl1_r, cl1_n, cl1_0, cl1_J, okS_0, okS_1, okS_2, okS_3, okS_4, bB_0, bB_and, z_0, z_1, z_10, bB_t, bB_f, Bool.true_eq_false, Bool.false_eq_true, gT0, gT1, gT2, gT3, gT4, gT5, gT6, gF0, gF1, gF2, gF3, gF4, gS0, gS1, gC0, gC1, iT, iF, iS, iC, sT6_0, sT6_1, sF2, sF3, sF4_0, sF4_1, sS1, sC1]
theorem n67 (hN : mt = true → ThS Lo th ∧ tIn Lo d = false) : RunM 67 [.ref 1, .int d, .int x] (hp sc (fB f) s c th be qu (bB mt) li mm) = some (some (.int (refu f mt)), (hp sc (fB f) s c th be qu (bB mt) li mm)) := by
  simp only [e67, s67_0, s67_0n, s67_1, s67_2, s67_5, s67_5n, s67_6, s67_6n, s67_7, s67_7n, s67_10, s67_10n, s67_11, Option.bind_some, Option.bind_none, Option.toList_some, Option.toList_none, List.nil_append, List.cons_append, ↓reduceIte, reduceCtorEq, cl1_i, cl1_r, cl1_n, cl1_0, cl1_J, okS_0, okS_1, okS_2, okS_3, okS_4, bB_0, bB_and, z_0, z_1, z_10, bB_t, bB_f, Bool.true_eq_false, Bool.false_eq_true, gT0, gT1, gT2, gT3, gT4, gT5, gT6, gF0, gF1, gF2, gF3, gF4, gS0, gS1, gC0, gC1, iT, iF, iS, iC, sT6_0, sT6_1, sF2, sF3, sF4_0, sF4_1, sS1, sC1, c78N hN, c72r]
  simp only [s67_14, Option.bind_some, Option.bind_none, Option.toList_some, Option.toList_none, List.nil_append, List.cons_append, ↓reduceIte, reduceCtorEq, cl1_i, cl1_r, cl1_n, cl1_0, cl1_J, okS_0, okS_1, okS_2, okS_3, okS_4, bB_0, bB_and, z_0, z_1, z_10, bB_t, bB_f, Bool.true_eq_false, Bool.false_eq_true, gT0, gT1, gT2, gT3, gT4, gT5, gT6, gF0, gF1, gF2, gF3, gF4, gS0, gS1, gC0, gC1, iT, iF, iS, iC, sT6_0, sT6_1, sF2, sF3, sF4_0, sF4_1, sS1, sC1]
theorem y63 {F : FlS} (hT : ThS Lo th) (hq : q < 8) (hb : (froS (lsO Lo) 0).testBit q = true) (hL : LiR (li q) es mk) : RunM 63 [.ref 1, .int (nI q), .int x] (hp sc (F) s c th be qu (1) li mm) = some (some (.int ((eAt es x).elim 0 fun e => nI e.1)), (hp sc (F) s c th be qu (1) li mm)) := by
  simp only [e63, s63_0, s63_0n, s63_1, s63_2, s63_5, s63_5n, s63_6, s63_6n, s63_7, s63_7n, s63_17, s63_17n, s63_18, s63_21, s63_22, s63_25, Option.bind_some, Option.bind_none, Option.toList_some, Option.toList_none, List.nil_append, List.cons_append, ↓reduceIte, reduceCtorEq, cl1_i, cl1_r, cl1_n, cl1_0, cl1_J, okS_0, okS_1, okS_2, okS_3, okS_4, bB_0, bB_and, z_0, z_1, z_10, bB_t, bB_f, Bool.true_eq_false, Bool.false_eq_true, gT0, gT1, gT2, gT3, gT4, gT5, gT6, gF0, gF1, gF2, gF3, gF4, gS0, gS1, gC0, gC1, iT, iF, iS, iC, sT6_0, sT6_1, sF2, sF3, sF4_0, sF4_1, sS1, sC1, gO0 hq, gO1 hq, gO2 hq, gO3 hq, gL0 hq, gL1 hq, gL2 hq, gL3 hq, gL4 hq, gL5 hq, gL6 hq, iO hq, iL hq, sL4 hq, sL5 hq, sL6 hq, c78y hT hq hb, c31 hq hL]
theorem isFo_at {k : Nat} {e : En} (h4 : es.length ≤ 4) (he : es[k]? = some e) : isFo es (nI k) = decide (e.2.1 = 2) := by
  unfold isFo
  rw [eAt_nI h4 (List.getElem?_eq_some_iff.mp he).1, he]
  rfl
theorem fiE_get {k : Nat} (h : fiE es x = some k) : ∃ e, es[k]? = some e ∧ nI e.1 = x := (fiE_lt h).2
theorem oI_n : oI none = -1 := id rfl
theorem oI_s (k : Nat) : oI (some k) = nI k := id rfl
def kndV (es : List En) (x : Int32) : Int32 := match fiE es x with
  | none => 0
  | some k => match es[k]? with
    | none => 0
    | some e => nI e.2.1
def sizV (es : List En) (x : Int32) : Int32 := match fiE es x with
  | none => -1
  | some k => match es[k]? with
    | none => 0
    | some e => if e.2.1 = 2 then -1 else nI e.2.2.1
def datV (es : List En) (x : Int32) : Int64 := match fiE es x with
  | none => -1
  | some k => match es[k]? with
    | none => 0
    | some e => if e.2.1 = 2 then -1 else e.2.2.2
def chiV (es : List En) (x : Int32) : Int32 := match fiE es x with
  | none => -1
  | some k => match es[k]? with
    | none => 0
    | some e => if e.2.1 = 2 then nI e.2.2.1 else -1
theorem m1m1 : ((-1 : Int32) = -1) = True := by simp
theorem y64 {F : FlS} (hT : ThS Lo th) (hq : q < 8) (hb : (froS (lsO Lo) 0).testBit q = true) (hL : LiR (li q) es mk) : RunM 64 [.ref 1, .int (nI q), .int x] (hp sc (F) s c th be qu (1) li mm) = some (some (.int (kndV es x)), (hp sc (F) s c th be qu (1) li mm)) := by
  simp only [e64, s64_0, s64_0n, s64_1, s64_2, s64_5, s64_5n, s64_6, s64_6n, s64_7, s64_7n, s64_15, s64_15n, s64_16, s64_19, s64_20, s64_23, s64_25, s64_27, Option.bind_some, Option.bind_none, Option.toList_some, Option.toList_none, List.nil_append, List.cons_append, ↓reduceIte, reduceCtorEq, cl1_i, cl1_r, cl1_n, cl1_0, cl1_J, okS_0, okS_1, okS_2, okS_3, okS_4, bB_0, bB_and, z_0, z_1, z_10, bB_t, bB_f, Bool.true_eq_false, Bool.false_eq_true, gT0, gT1, gT2, gT3, gT4, gT5, gT6, gF0, gF1, gF2, gF3, gF4, gS0, gS1, gC0, gC1, iT, iF, iS, iC, sT6_0, sT6_1, sF2, sF3, sF4_0, sF4_1, sS1, sC1, gO0 hq, gO1 hq, gO2 hq, gO3 hq, gL0 hq, gL1 hq, gL2 hq, gL3 hq, gL4 hq, gL5 hq, gL6 hq, iO hq, iL hq, sL4 hq, sL5 hq, sL6 hq, c78y hT hq hb, c28 hq hL]
  unfold kndV
  cases hf : fiE es x with
  | none => simp only [s64_28, s64_31, s64_32, Option.bind_some, Option.bind_none, Option.toList_some, Option.toList_none, List.nil_append, List.cons_append, ↓reduceIte, reduceCtorEq, cl1_i, cl1_r, cl1_n, cl1_0, cl1_J, okS_0, okS_1, okS_2, okS_3, okS_4, bB_0, bB_and, z_0, z_1, z_10, bB_t, bB_f, Bool.true_eq_false, Bool.false_eq_true, gT0, gT1, gT2, gT3, gT4, gT5, gT6, gF0, gF1, gF2, gF3, gF4, gS0, gS1, gC0, gC1, iT, iF, iS, iC, sT6_0, sT6_1, sF2, sF3, sF4_0, sF4_1, sS1, sC1, oI_n, m1m1]
  | some k =>
    obtain ⟨e, he, -⟩ := fiE_get hf
    have hk : k < 2 ^ 31 := by have := (fiE_lt hf).1; have := hL.1; omega
    simp only [s64_28, s64_33, s64_33n, s64_34, s64_37, s64_39, Option.bind_some, Option.bind_none, Option.toList_some, Option.toList_none, List.nil_append, List.cons_append, ↓reduceIte, reduceCtorEq, cl1_i, cl1_r, cl1_n, cl1_0, cl1_J, okS_0, okS_1, okS_2, okS_3, okS_4, bB_0, bB_and, z_0, z_1, z_10, bB_t, bB_f, Bool.true_eq_false, Bool.false_eq_true, gT0, gT1, gT2, gT3, gT4, gT5, gT6, gF0, gF1, gF2, gF3, gF4, gS0, gS1, gC0, gC1, iT, iF, iS, iC, sT6_0, sT6_1, sF2, sF3, sF4_0, sF4_1, sS1, sC1, gO0 hq, gO1 hq, gO2 hq, gO3 hq, gL0 hq, gL1 hq, gL2 hq, gL3 hq, gL4 hq, gL5 hq, gL6 hq, iO hq, iL hq, sL4 hq, sL5 hq, sL6 hq, oI_s, m1_nI' hk, c30 hq hL, isFo_at hL.1 he, he]
    rcases (hL.2.2.1 k e he).2.2.2 with ⟨g, -⟩ | ⟨g, -⟩
    · have h1 : decide (e.2.1 = 2) = false := by rw [g]; rfl
      simp only [s64_42, s64_49, s64_50, Option.bind_some, Option.bind_none, Option.toList_some, Option.toList_none, List.nil_append, List.cons_append, ↓reduceIte, reduceCtorEq, cl1_i, cl1_r, cl1_n, cl1_0, cl1_J, okS_0, okS_1, okS_2, okS_3, okS_4, bB_0, bB_and, z_0, z_1, z_10, bB_t, bB_f, Bool.true_eq_false, Bool.false_eq_true, gT0, gT1, gT2, gT3, gT4, gT5, gT6, gF0, gF1, gF2, gF3, gF4, gS0, gS1, gC0, gC1, iT, iF, iS, iC, sT6_0, sT6_1, sF2, sF3, sF4_0, sF4_1, sS1, sC1, h1, g, decide_true, decide_false]
      rfl
    · have h1 : decide (e.2.1 = 2) = true := by rw [g]; rfl
      simp only [s64_42, s64_45, s64_46, s64_49, s64_50, Option.bind_some, Option.bind_none, Option.toList_some, Option.toList_none, List.nil_append, List.cons_append, ↓reduceIte, reduceCtorEq, cl1_i, cl1_r, cl1_n, cl1_0, cl1_J, okS_0, okS_1, okS_2, okS_3, okS_4, bB_0, bB_and, z_0, z_1, z_10, bB_t, bB_f, Bool.true_eq_false, Bool.false_eq_true, gT0, gT1, gT2, gT3, gT4, gT5, gT6, gF0, gF1, gF2, gF3, gF4, gS0, gS1, gC0, gC1, iT, iF, iS, iC, sT6_0, sT6_1, sF2, sF3, sF4_0, sF4_1, sS1, sC1, h1, g, decide_true, decide_false]
      rfl
theorem y65 {F : FlS} (hT : ThS Lo th) (hq : q < 8) (hb : (froS (lsO Lo) 0).testBit q = true) (hL : LiR (li q) es mk) : RunM 65 [.ref 1, .int (nI q), .int x] (hp sc (F) s c th be qu (1) li mm) = some (some (.int (sizV es x)), (hp sc (F) s c th be qu (1) li mm)) := by
  simp only [e65, s65_0, s65_0n, s65_1, s65_2, s65_5, s65_5n, s65_6, s65_6n, s65_7, s65_7n, s65_15, s65_15n, s65_16, s65_19, s65_20, s65_23, s65_25, s65_27, Option.bind_some, Option.bind_none, Option.toList_some, Option.toList_none, List.nil_append, List.cons_append, ↓reduceIte, reduceCtorEq, cl1_i, cl1_r, cl1_n, cl1_0, cl1_J, okS_0, okS_1, okS_2, okS_3, okS_4, bB_0, bB_and, z_0, z_1, z_10, bB_t, bB_f, Bool.true_eq_false, Bool.false_eq_true, gT0, gT1, gT2, gT3, gT4, gT5, gT6, gF0, gF1, gF2, gF3, gF4, gS0, gS1, gC0, gC1, iT, iF, iS, iC, sT6_0, sT6_1, sF2, sF3, sF4_0, sF4_1, sS1, sC1, gO0 hq, gO1 hq, gO2 hq, gO3 hq, gL0 hq, gL1 hq, gL2 hq, gL3 hq, gL4 hq, gL5 hq, gL6 hq, iO hq, iL hq, sL4 hq, sL5 hq, sL6 hq, c78y hT hq hb, c29 hq hL]
  unfold sizV fiF
  cases hf : fiE es x with
  | none =>
    have h0 : isFo es (-1) = false := by unfold isFo; rw [eAt_m1]; rfl
    simp only [s65_28, s65_31, s65_32, s65_44, Option.bind_some, Option.bind_none, Option.toList_some, Option.toList_none, List.nil_append, List.cons_append, ↓reduceIte, reduceCtorEq, cl1_i, cl1_r, cl1_n, cl1_0, cl1_J, okS_0, okS_1, okS_2, okS_3, okS_4, bB_0, bB_and, z_0, z_1, z_10, bB_t, bB_f, Bool.true_eq_false, Bool.false_eq_true, gT0, gT1, gT2, gT3, gT4, gT5, gT6, gF0, gF1, gF2, gF3, gF4, gS0, gS1, gC0, gC1, iT, iF, iS, iC, sT6_0, sT6_1, sF2, sF3, sF4_0, sF4_1, sS1, sC1, oI_n, h0, m1m1]
  | some k =>
    obtain ⟨e, he, -⟩ := fiE_get hf
    have hk : k < 2 ^ 31 := by have := (fiE_lt hf).1; have := hL.1; omega
    have hea : eAt es (nI k) = some e := by rw [eAt_nI hL.1 (fiE_lt hf).1, he]
    rcases (hL.2.2.1 k e he).2.2.2 with ⟨g, -⟩ | ⟨g, -⟩
    · have h1 : decide (e.2.1 = 2) = false := by rw [g]; rfl
      have h2 : ¬ e.2.1 = 2 := by omega
      simp only [oI_s, isFo_at hL.1 he, h1, he, h2, decide_true, decide_false, Option.bind_some, Option.bind_none, Option.toList_some, Option.toList_none, List.nil_append, List.cons_append, ↓reduceIte, reduceCtorEq, cl1_i, cl1_r, cl1_n, cl1_0, cl1_J, okS_0, okS_1, okS_2, okS_3, okS_4, bB_0, bB_and, z_0, z_1, z_10, bB_t, bB_f, Bool.true_eq_false, Bool.false_eq_true, gT0, gT1, gT2, gT3, gT4, gT5, gT6, gF0, gF1, gF2, gF3, gF4, gS0, gS1, gC0, gC1, iT, iF, iS, iC, sT6_0, sT6_1, sF2, sF3, sF4_0, sF4_1, sS1, sC1]
      simp only [s65_28, s65_35, s65_35n, s65_36, s65_39, s65_41, s65_44, Option.bind_some, Option.bind_none, Option.toList_some, Option.toList_none, List.nil_append, List.cons_append, ↓reduceIte, reduceCtorEq, cl1_i, cl1_r, cl1_n, cl1_0, cl1_J, okS_0, okS_1, okS_2, okS_3, okS_4, bB_0, bB_and, z_0, z_1, z_10, bB_t, bB_f, Bool.true_eq_false, Bool.false_eq_true, gT0, gT1, gT2, gT3, gT4, gT5, gT6, gF0, gF1, gF2, gF3, gF4, gS0, gS1, gC0, gC1, iT, iF, iS, iC, sT6_0, sT6_1, sF2, sF3, sF4_0, sF4_1, sS1, sC1, gO0 hq, gO1 hq, gO2 hq, gO3 hq, gL0 hq, gL1 hq, gL2 hq, gL3 hq, gL4 hq, gL5 hq, gL6 hq, iO hq, iL hq, sL4 hq, sL5 hq, sL6 hq, m1_nI' hk, c33 hq hL, hea, Option.elim, enLn, h2]
    · have h1 : decide (e.2.1 = 2) = true := by rw [g]; rfl
      simp only [oI_s, isFo_at hL.1 he, h1, he, g, decide_true, decide_false, Option.bind_some, Option.bind_none, Option.toList_some, Option.toList_none, List.nil_append, List.cons_append, ↓reduceIte, reduceCtorEq, cl1_i, cl1_r, cl1_n, cl1_0, cl1_J, okS_0, okS_1, okS_2, okS_3, okS_4, bB_0, bB_and, z_0, z_1, z_10, bB_t, bB_f, Bool.true_eq_false, Bool.false_eq_true, gT0, gT1, gT2, gT3, gT4, gT5, gT6, gF0, gF1, gF2, gF3, gF4, gS0, gS1, gC0, gC1, iT, iF, iS, iC, sT6_0, sT6_1, sF2, sF3, sF4_0, sF4_1, sS1, sC1]
      simp only [s65_28, s65_31, s65_32, s65_44, Option.bind_some, Option.bind_none, Option.toList_some, Option.toList_none, List.nil_append, List.cons_append, ↓reduceIte, reduceCtorEq, cl1_i, cl1_r, cl1_n, cl1_0, cl1_J, okS_0, okS_1, okS_2, okS_3, okS_4, bB_0, bB_and, z_0, z_1, z_10, bB_t, bB_f, Bool.true_eq_false, Bool.false_eq_true, gT0, gT1, gT2, gT3, gT4, gT5, gT6, gF0, gF1, gF2, gF3, gF4, gS0, gS1, gC0, gC1, iT, iF, iS, iC, sT6_0, sT6_1, sF2, sF3, sF4_0, sF4_1, sS1, sC1, m1m1]
theorem y66 {F : FlS} (hT : ThS Lo th) (hq : q < 8) (hb : (froS (lsO Lo) 0).testBit q = true) (hL : LiR (li q) es mk) : RunM 66 [.ref 1, .int (nI q), .int x] (hp sc (F) s c th be qu (1) li mm) = some (some (.long (datV es x)), (hp sc (F) s c th be qu (1) li mm)) := by
  simp only [e66, s66_0, s66_0n, s66_1, s66_2, s66_5, s66_5n, s66_6, s66_6n, s66_7, s66_7n, s66_16, s66_16n, s66_17, s66_20, s66_21, s66_24, s66_26, s66_28, Option.bind_some, Option.bind_none, Option.toList_some, Option.toList_none, List.nil_append, List.cons_append, ↓reduceIte, reduceCtorEq, cl1_i, cl1_r, cl1_n, cl1_0, cl1_J, okS_0, okS_1, okS_2, okS_3, okS_4, bB_0, bB_and, z_0, z_1, z_10, bB_t, bB_f, Bool.true_eq_false, Bool.false_eq_true, gT0, gT1, gT2, gT3, gT4, gT5, gT6, gF0, gF1, gF2, gF3, gF4, gS0, gS1, gC0, gC1, iT, iF, iS, iC, sT6_0, sT6_1, sF2, sF3, sF4_0, sF4_1, sS1, sC1, gO0 hq, gO1 hq, gO2 hq, gO3 hq, gL0 hq, gL1 hq, gL2 hq, gL3 hq, gL4 hq, gL5 hq, gL6 hq, iO hq, iL hq, sL4 hq, sL5 hq, sL6 hq, c78y hT hq hb, c29 hq hL]
  unfold datV fiF
  cases hf : fiE es x with
  | none =>
    have h0 : isFo es (-1) = false := by unfold isFo; rw [eAt_m1]; rfl
    simp only [s66_29, s66_32, s66_35, s66_47, Option.bind_some, Option.bind_none, Option.toList_some, Option.toList_none, List.nil_append, List.cons_append, ↓reduceIte, reduceCtorEq, cl1_i, cl1_r, cl1_n, cl1_0, cl1_J, okS_0, okS_1, okS_2, okS_3, okS_4, bB_0, bB_and, z_0, z_1, z_10, bB_t, bB_f, Bool.true_eq_false, Bool.false_eq_true, gT0, gT1, gT2, gT3, gT4, gT5, gT6, gF0, gF1, gF2, gF3, gF4, gS0, gS1, gC0, gC1, iT, iF, iS, iC, sT6_0, sT6_1, sF2, sF3, sF4_0, sF4_1, sS1, sC1, oI_n, h0, m1m1]
  | some k =>
    obtain ⟨e, he, -⟩ := fiE_get hf
    have hk : k < 2 ^ 31 := by have := (fiE_lt hf).1; have := hL.1; omega
    have hea : eAt es (nI k) = some e := by rw [eAt_nI hL.1 (fiE_lt hf).1, he]
    rcases (hL.2.2.1 k e he).2.2.2 with ⟨g, -⟩ | ⟨g, -⟩
    · have h1 : decide (e.2.1 = 2) = false := by rw [g]; rfl
      have h2 : ¬ e.2.1 = 2 := by omega
      simp only [oI_s, isFo_at hL.1 he, h1, he, h2, decide_true, decide_false, Option.bind_some, Option.bind_none, Option.toList_some, Option.toList_none, List.nil_append, List.cons_append, ↓reduceIte, reduceCtorEq, cl1_i, cl1_r, cl1_n, cl1_0, cl1_J, okS_0, okS_1, okS_2, okS_3, okS_4, bB_0, bB_and, z_0, z_1, z_10, bB_t, bB_f, Bool.true_eq_false, Bool.false_eq_true, gT0, gT1, gT2, gT3, gT4, gT5, gT6, gF0, gF1, gF2, gF3, gF4, gS0, gS1, gC0, gC1, iT, iF, iS, iC, sT6_0, sT6_1, sF2, sF3, sF4_0, sF4_1, sS1, sC1]
      simp only [s66_29, s66_38, s66_38n, s66_39, s66_42, s66_44, s66_47, Option.bind_some, Option.bind_none, Option.toList_some, Option.toList_none, List.nil_append, List.cons_append, ↓reduceIte, reduceCtorEq, cl1_i, cl1_r, cl1_n, cl1_0, cl1_J, okS_0, okS_1, okS_2, okS_3, okS_4, bB_0, bB_and, z_0, z_1, z_10, bB_t, bB_f, Bool.true_eq_false, Bool.false_eq_true, gT0, gT1, gT2, gT3, gT4, gT5, gT6, gF0, gF1, gF2, gF3, gF4, gS0, gS1, gC0, gC1, iT, iF, iS, iC, sT6_0, sT6_1, sF2, sF3, sF4_0, sF4_1, sS1, sC1, gO0 hq, gO1 hq, gO2 hq, gO3 hq, gL0 hq, gL1 hq, gL2 hq, gL3 hq, gL4 hq, gL5 hq, gL6 hq, iO hq, iL hq, sL4 hq, sL5 hq, sL6 hq, m1_nI' hk, c34 hq hL, hea, Option.elim]
    · have h1 : decide (e.2.1 = 2) = true := by rw [g]; rfl
      simp only [oI_s, isFo_at hL.1 he, h1, he, g, decide_true, decide_false, Option.bind_some, Option.bind_none, Option.toList_some, Option.toList_none, List.nil_append, List.cons_append, ↓reduceIte, reduceCtorEq, cl1_i, cl1_r, cl1_n, cl1_0, cl1_J, okS_0, okS_1, okS_2, okS_3, okS_4, bB_0, bB_and, z_0, z_1, z_10, bB_t, bB_f, Bool.true_eq_false, Bool.false_eq_true, gT0, gT1, gT2, gT3, gT4, gT5, gT6, gF0, gF1, gF2, gF3, gF4, gS0, gS1, gC0, gC1, iT, iF, iS, iC, sT6_0, sT6_1, sF2, sF3, sF4_0, sF4_1, sS1, sC1]
      simp only [s66_29, s66_32, s66_35, s66_47, Option.bind_some, Option.bind_none, Option.toList_some, Option.toList_none, List.nil_append, List.cons_append, ↓reduceIte, reduceCtorEq, cl1_i, cl1_r, cl1_n, cl1_0, cl1_J, okS_0, okS_1, okS_2, okS_3, okS_4, bB_0, bB_and, z_0, z_1, z_10, bB_t, bB_f, Bool.true_eq_false, Bool.false_eq_true, gT0, gT1, gT2, gT3, gT4, gT5, gT6, gF0, gF1, gF2, gF3, gF4, gS0, gS1, gC0, gC1, iT, iF, iS, iC, sT6_0, sT6_1, sF2, sF3, sF4_0, sF4_1, sS1, sC1, m1m1]
theorem y67 {F : FlS} (hT : ThS Lo th) (hq : q < 8) (hb : (froS (lsO Lo) 0).testBit q = true) (hL : LiR (li q) es mk) : RunM 67 [.ref 1, .int (nI q), .int x] (hp sc (F) s c th be qu (1) li mm) = some (some (.int (chiV es x)), (hp sc (F) s c th be qu (1) li mm)) := by
  simp only [e67, s67_0, s67_0n, s67_1, s67_2, s67_5, s67_5n, s67_6, s67_6n, s67_7, s67_7n, s67_15, s67_15n, s67_16, s67_19, s67_20, s67_23, s67_25, s67_25n, s67_26, s67_29, s67_31, Option.bind_some, Option.bind_none, Option.toList_some, Option.toList_none, List.nil_append, List.cons_append, ↓reduceIte, reduceCtorEq, cl1_i, cl1_r, cl1_n, cl1_0, cl1_J, okS_0, okS_1, okS_2, okS_3, okS_4, bB_0, bB_and, z_0, z_1, z_10, bB_t, bB_f, Bool.true_eq_false, Bool.false_eq_true, gT0, gT1, gT2, gT3, gT4, gT5, gT6, gF0, gF1, gF2, gF3, gF4, gS0, gS1, gC0, gC1, iT, iF, iS, iC, sT6_0, sT6_1, sF2, sF3, sF4_0, sF4_1, sS1, sC1, gO0 hq, gO1 hq, gO2 hq, gO3 hq, gL0 hq, gL1 hq, gL2 hq, gL3 hq, gL4 hq, gL5 hq, gL6 hq, iO hq, iL hq, sL4 hq, sL5 hq, sL6 hq, c78y hT hq hb, c28 hq hL, c30 hq hL]
  unfold chiV
  cases hf : fiE es x with
  | none =>
    have h0 : isFo es (-1) = false := by unfold isFo; rw [eAt_m1]; rfl
    simp only [s67_34, s67_49, s67_50, Option.bind_some, Option.bind_none, Option.toList_some, Option.toList_none, List.nil_append, List.cons_append, ↓reduceIte, reduceCtorEq, cl1_i, cl1_r, cl1_n, cl1_0, cl1_J, okS_0, okS_1, okS_2, okS_3, okS_4, bB_0, bB_and, z_0, z_1, z_10, bB_t, bB_f, Bool.true_eq_false, Bool.false_eq_true, gT0, gT1, gT2, gT3, gT4, gT5, gT6, gF0, gF1, gF2, gF3, gF4, gS0, gS1, gC0, gC1, iT, iF, iS, iC, sT6_0, sT6_1, sF2, sF3, sF4_0, sF4_1, sS1, sC1, oI_n, h0]
  | some k =>
    obtain ⟨e, he, -⟩ := fiE_get hf
    have hk : k < 2 ^ 31 := by have := (fiE_lt hf).1; have := hL.1; omega
    have hea : eAt es (nI k) = some e := by rw [eAt_nI hL.1 (fiE_lt hf).1, he]
    rcases (hL.2.2.1 k e he).2.2.2 with ⟨g, -⟩ | ⟨g, -⟩
    · have h1 : decide (e.2.1 = 2) = false := by rw [g]; rfl
      have h2 : ¬ e.2.1 = 2 := by omega
      simp only [oI_s, isFo_at hL.1 he, h1, he, h2, decide_true, decide_false, s67_34, s67_49, s67_50, Option.bind_some, Option.bind_none, Option.toList_some, Option.toList_none, List.nil_append, List.cons_append, ↓reduceIte, reduceCtorEq, cl1_i, cl1_r, cl1_n, cl1_0, cl1_J, okS_0, okS_1, okS_2, okS_3, okS_4, bB_0, bB_and, z_0, z_1, z_10, bB_t, bB_f, Bool.true_eq_false, Bool.false_eq_true, gT0, gT1, gT2, gT3, gT4, gT5, gT6, gF0, gF1, gF2, gF3, gF4, gS0, gS1, gC0, gC1, iT, iF, iS, iC, sT6_0, sT6_1, sF2, sF3, sF4_0, sF4_1, sS1, sC1]
    · have h1 : decide (e.2.1 = 2) = true := by rw [g]; rfl
      simp only [oI_s, isFo_at hL.1 he, h1, he, g, decide_true, decide_false, s67_34, s67_37, s67_37n, s67_38, s67_41, s67_43, s67_46, s67_49, s67_50, Option.bind_some, Option.bind_none, Option.toList_some, Option.toList_none, List.nil_append, List.cons_append, ↓reduceIte, reduceCtorEq, cl1_i, cl1_r, cl1_n, cl1_0, cl1_J, okS_0, okS_1, okS_2, okS_3, okS_4, bB_0, bB_and, z_0, z_1, z_10, bB_t, bB_f, Bool.true_eq_false, Bool.false_eq_true, gT0, gT1, gT2, gT3, gT4, gT5, gT6, gF0, gF1, gF2, gF3, gF4, gS0, gS1, gC0, gC1, iT, iF, iS, iC, sT6_0, sT6_1, sF2, sF3, sF4_0, sF4_1, sS1, sC1, gO0 hq, gO1 hq, gO2 hq, gO3 hq, gL0 hq, gL1 hq, gL2 hq, gL3 hq, gL4 hq, gL5 hq, gL6 hq, iO hq, iL hq, sL4 hq, sL5 hq, sL6 hq, c32 hq hL, hea, Option.elim, enPr]
end RDC
