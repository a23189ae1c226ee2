/-! ===== make ===== -/
def mpr (s : Nat) : Nat → Nat → Nat
  | 0, p => p
  | n + 1, p => mpr s n (if s.testBit (n + 1) = true then p else n + 1)
def mkC (s : Nat) : Bool := match lowF s 8 0 with
  | none => decide (mpr s 7 0 = 0)
  | some p => decide (1 ≤ p) && decide (p < 8) && decide (mpr s 7 0 = p) && !s.testBit p
theorem mkC_all : ∀ s, s < 256 → s.testBit 0 = true → mkC s = true := by decide +kernel
theorem low_mpr {s : Nat} (hs : s < 256) (h0 : s.testBit 0 = true) : (lowF s 8 0 = none ∧ mpr s 7 0 = 0) ∨ ∃ p, lowF s 8 0 = some p ∧ 1 ≤ p ∧ p < 8 ∧ mpr s 7 0 = p ∧ s.testBit p = false := by
  have := mkC_all s hs h0
  unfold mkC at this
  cases hl : lowF s 8 0 with
  | none =>
    rw [hl] at this
    exact Or.inl ⟨rfl, of_decide_eq_true this⟩
  | some p =>
    rw [hl] at this
    simp only [Bool.and_eq_true, decide_eq_true_eq, Bool.not_eq_true'] at this
    obtain ⟨⟨⟨a, b⟩, c⟩, d⟩ := this
    exact Or.inr ⟨p, rfl, a, b, c, d⟩
theorem mk_rch {Lo : LO} {p : Nat} (hp : ¬ Rch (lsO Lo) 0 p) (o : Option Lst) (x : Nat) : Rch (lsO (upO Lo p o)) 0 x ↔ Rch (lsO Lo) 0 x := by
  constructor
  · exact fun h => Rch.in (P := Rch (lsO Lo) 0) Rch.rf (fun x hx y hy => by
      have hxp : x ≠ p := fun e => hp (e ▸ hx)
      rw [lsO_ne _ _ hxp] at hy
      exact hx.step hy) h
  · intro h
    exact (Rch.in (Ls := lsO Lo) (P := fun x => Rch (lsO Lo) 0 x ∧ Rch (lsO (upO Lo p o)) 0 x) ⟨Rch.rf, Rch.rf⟩ (fun x hx y hy => by
      have hxp : x ≠ p := fun e => hp (e ▸ hx.1)
      exact ⟨hx.1.step hy, hx.2.step (by rw [lsO_ne _ _ hxp]; exact hy)⟩) h).2
def mkV (es : List En) (x : Int32) : Int32 := if nmOk x = true then (match fiE es x with
  | none => if es.length = 4 then -3 else 0
  | some _ => -2) else -1
section MKC
variable {sc : AC} {f : FB} {s c : OpS} {th be qu : Nat → Int32} {mo : Int32} {li : Nat → LiS} {mm : AH} {Lo : LO} {mt : Bool} {d x : Int32} {q : Nat}
theorem n59 (hN : mt = true → ThS Lo th ∧ tIn Lo d = false) : RunM 59 [.ref 1, .int d, .int x] (hp sc (fB f) s c th be qu (bB mt) li mm) = some (some (.int (refu f mt)), (hp sc (fB f) s c th be qu (bB mt) li mm)) := by
  simp only [e59, s59_0, s59_0n, s59_1, s59_2, s59_5, s59_5n, s59_6, s59_6n, s59_7, s59_7n, s59_10, s59_10n, s59_11, Option.bind_some, Option.bind_none, Option.toList_some, Option.toList_none, List.nil_append, List.cons_append, ↓reduceIte, reduceCtorEq, cl1_i, cl1_r, cl1_n, cl1_0, cl1_J, okS_0, okS_1, okS_2, okS_3, okS_4, bB_0, bB_and, z_0, z_1, z_10, bB_t, bB_f, Bool.true_eq_false, Bool.false_eq_true, gT0, gT1, gT2, gT3, gT4, gT5, gT6, gF0, gF1, gF2, gF3, gF4, gS0, gS1, gC0, gC1, iT, iF, iS, iC, sT6_0, sT6_1, sF2, sF3, sF4_0, sF4_1, sS1, sC1, c78N hN, c72r]
  simp only [s59_14, Option.bind_some, Option.bind_none, Option.toList_some, Option.toList_none, List.nil_append, List.cons_append, ↓reduceIte, reduceCtorEq, cl1_i, cl1_r, cl1_n, cl1_0, cl1_J, okS_0, okS_1, okS_2, okS_3, okS_4, bB_0, bB_and, z_0, z_1, z_10, bB_t, bB_f, Bool.true_eq_false, Bool.false_eq_true, gT0, gT1, gT2, gT3, gT4, gT5, gT6, gF0, gF1, gF2, gF3, gF4, gS0, gS1, gC0, gC1, iT, iF, iS, iC, sT6_0, sT6_1, sF2, sF3, sF4_0, sF4_1, sS1, sC1]
theorem s59 {F : FlS} (hT : ThS Lo th) (hA : LiA Lo li) (hq : q < 8) (hb : (froS (lsO Lo) 0).testBit q = true) : RunM 59 [.ref 1, .int (nI q), .int x] (hp sc (F) s c th be qu (1) li mm) = if mkV (lsO Lo q).1 x = 0 then Run 59 61 [some (.ref 1), some (.int (nI q)), some (.int x), some (.ref (13 + 6 * q)), some (.int (oI (lowF (froS (lsO Lo) 0) 8 0))), none] [.int (oI (lowF (froS (lsO Lo) 0) 8 0)), .ref 1] (hp sc (F) s c th be qu (1) li mm) else some (some (.int (mkV (lsO Lo q).1 x)), (hp sc (F) s c th be qu (1) li mm)) := by
  have hL := hA q hq
  simp only [e59, s59_0, s59_0n, s59_1, s59_2, s59_5, s59_5n, s59_6, s59_6n, s59_7, s59_7n, Option.bind_some, Option.bind_none, Option.toList_some, Option.toList_none, List.nil_append, List.cons_append, ↓reduceIte, reduceCtorEq, cl1_i, cl1_r, cl1_n, cl1_0, cl1_J, okS_0, okS_1, okS_2, okS_3, okS_4, bB_0, bB_and, z_0, z_1, z_10, bB_t, bB_f, Bool.true_eq_false, Bool.false_eq_true, gT0, gT1, gT2, gT3, gT4, gT5, gT6, gF0, gF1, gF2, gF3, gF4, gS0, gS1, gC0, gC1, iT, iF, iS, iC, sT6_0, sT6_1, sF2, sF3, sF4_0, sF4_1, sS1, sC1, c78y hT hq hb]
  simp only [s59_15, s59_16, Option.bind_some, Option.bind_none, Option.toList_some, Option.toList_none, List.nil_append, List.cons_append, ↓reduceIte, reduceCtorEq, cl1_i, cl1_r, cl1_n, cl1_0, cl1_J, okS_0, okS_1, okS_2, okS_3, okS_4, bB_0, bB_and, z_0, z_1, z_10, bB_t, bB_f, Bool.true_eq_false, Bool.false_eq_true, gT0, gT1, gT2, gT3, gT4, gT5, gT6, gF0, gF1, gF2, gF3, gF4, gS0, gS1, gC0, gC1, iT, iF, iS, iC, sT6_0, sT6_1, sF2, sF3, sF4_0, sF4_1, sS1, sC1, c74n]
  unfold mkV
  cases hn : nmOk x with
  | false => simp only [s59_19, s59_22, s59_23, Option.bind_some, Option.bind_none, Option.toList_some, Option.toList_none, List.nil_append, List.cons_append, ↓reduceIte, reduceCtorEq, cl1_i, cl1_r, cl1_n, cl1_0, cl1_J, okS_0, okS_1, okS_2, okS_3, okS_4, bB_0, bB_and, z_0, z_1, z_10, bB_t, bB_f, Bool.true_eq_false, Bool.false_eq_true, gT0, gT1, gT2, gT3, gT4, gT5, gT6, gF0, gF1, gF2, gF3, gF4, gS0, gS1, gC0, gC1, iT, iF, iS, iC, sT6_0, sT6_1, sF2, sF3, sF4_0, sF4_1, sS1, sC1, show ¬ (-1 : Int32) = 0 by decide]
  | true =>
    simp only [s59_19, s59_24, s59_24n, s59_25, s59_28, s59_29, s59_32, Option.bind_some, Option.bind_none, Option.toList_some, Option.toList_none, List.nil_append, List.cons_append, ↓reduceIte, reduceCtorEq, cl1_i, cl1_r, cl1_n, cl1_0, cl1_J, okS_0, okS_1, okS_2, okS_3, okS_4, bB_0, bB_and, z_0, z_1, z_10, bB_t, bB_f, Bool.true_eq_false, Bool.false_eq_true, gT0, gT1, gT2, gT3, gT4, gT5, gT6, gF0, gF1, gF2, gF3, gF4, gS0, gS1, gC0, gC1, iT, iF, iS, iC, sT6_0, sT6_1, sF2, sF3, sF4_0, sF4_1, sS1, sC1, gO0 hq, gO1 hq, gO2 hq, gO3 hq, gL0 hq, gL1 hq, gL2 hq, gL3 hq, gL4 hq, gL5 hq, gL6 hq, iO hq, iL hq, sL4 hq, sL5 hq, sL6 hq, c28 hq hL]
    cases hf : fiE (lsO Lo q).1 x with
    | some k =>
      have hk : k < 2 ^ 31 := by have := (fiE_lt hf).1; have := hL.1; omega
      simp only [s59_33, s59_36, s59_38, Option.bind_some, Option.bind_none, Option.toList_some, Option.toList_none, List.nil_append, List.cons_append, ↓reduceIte, reduceCtorEq, cl1_i, cl1_r, cl1_n, cl1_0, cl1_J, okS_0, okS_1, okS_2, okS_3, okS_4, bB_0, bB_and, z_0, z_1, z_10, bB_t, bB_f, Bool.true_eq_false, Bool.false_eq_true, gT0, gT1, gT2, gT3, gT4, gT5, gT6, gF0, gF1, gF2, gF3, gF4, gS0, gS1, gC0, gC1, iT, iF, iS, iC, sT6_0, sT6_1, sF2, sF3, sF4_0, sF4_1, sS1, sC1, oI_s, m1_nI' hk, show ¬ (-2 : Int32) = 0 by decide]
    | none =>
      simp only [s59_33, s59_39, s59_39n, s59_40, s59_43, Option.bind_some, Option.bind_none, Option.toList_some, Option.toList_none, List.nil_append, List.cons_append, ↓reduceIte, reduceCtorEq, cl1_i, cl1_r, cl1_n, cl1_0, cl1_J, okS_0, okS_1, okS_2, okS_3, okS_4, bB_0, bB_and, z_0, z_1, z_10, bB_t, bB_f, Bool.true_eq_false, Bool.false_eq_true, gT0, gT1, gT2, gT3, gT4, gT5, gT6, gF0, gF1, gF2, gF3, gF4, gS0, gS1, gC0, gC1, iT, iF, iS, iC, sT6_0, sT6_1, sF2, sF3, sF4_0, sF4_1, sS1, sC1, gO0 hq, gO1 hq, gO2 hq, gO3 hq, gL0 hq, gL1 hq, gL2 hq, gL3 hq, gL4 hq, gL5 hq, gL6 hq, iO hq, iL hq, sL4 hq, sL5 hq, sL6 hq, oI_n, m1m1, c26 hq hL]
      by_cases h4 : (lsO Lo q).1.length = 4
      · simp only [s59_46, s59_49, s59_51, Option.bind_some, Option.bind_none, Option.toList_some, Option.toList_none, List.nil_append, List.cons_append, ↓reduceIte, reduceCtorEq, cl1_i, cl1_r, cl1_n, cl1_0, cl1_J, okS_0, okS_1, okS_2, okS_3, okS_4, bB_0, bB_and, z_0, z_1, z_10, bB_t, bB_f, Bool.true_eq_false, Bool.false_eq_true, gT0, gT1, gT2, gT3, gT4, gT5, gT6, gF0, gF1, gF2, gF3, gF4, gS0, gS1, gC0, gC1, iT, iF, iS, iC, sT6_0, sT6_1, sF2, sF3, sF4_0, sF4_1, sS1, sC1, h4, decide_true, show ¬ (-3 : Int32) = 0 by decide]
      · simp only [s59_46, s59_52, s59_52n, s59_53, Option.bind_some, Option.bind_none, Option.toList_some, Option.toList_none, List.nil_append, List.cons_append, ↓reduceIte, reduceCtorEq, cl1_i, cl1_r, cl1_n, cl1_0, cl1_J, okS_0, okS_1, okS_2, okS_3, okS_4, bB_0, bB_and, z_0, z_1, z_10, bB_t, bB_f, Bool.true_eq_false, Bool.false_eq_true, gT0, gT1, gT2, gT3, gT4, gT5, gT6, gF0, gF1, gF2, gF3, gF4, gS0, gS1, gC0, gC1, iT, iF, iS, iC, sT6_0, sT6_1, sF2, sF3, sF4_0, sF4_1, sS1, sC1, h4, decide_false, c79 hT]
        simp only [s59_56, s59_58, s59_58n, s59_59, Option.bind_some, Option.bind_none, Option.toList_some, Option.toList_none, List.nil_append, List.cons_append, ↓reduceIte, reduceCtorEq, cl1_i, cl1_r, cl1_n, cl1_0, cl1_J, okS_0, okS_1, okS_2, okS_3, okS_4, bB_0, bB_and, z_0, z_1, z_10, bB_t, bB_f, Bool.true_eq_false, Bool.false_eq_true, gT0, gT1, gT2, gT3, gT4, gT5, gT6, gF0, gF1, gF2, gF3, gF4, gS0, gS1, gC0, gC1, iT, iF, iS, iC, sT6_0, sT6_1, sF2, sF3, sF4_0, sF4_1, sS1, sC1]
end MKC
section MKM
variable {sc : AC} {F : FlS} {s c : OpS} {th be qu : Nat → Int32} {mo : Int32} {li : Nat → LiS} {f : FB} {mt : Bool} {jl : Int32} {R : RgS} {O A : OpS} {Lo : LO} {d x : Int32} {q : Nat}
theorem u115 (h : mt = false) : RunM 115 [.ref 61, .int d, .int x] (hp sc F s c th be qu mo li (hM (mS f mt jl R O A))) = some (some (.int (rdy f mt)), (hp sc F s c th be qu mo li (hM (mS f mt jl R O A)))) := by
  simp only [e115, s115_0, s115_0n, s115_1, s115_4, s115_7, s115_7n, s115_8, Option.bind_some, Option.bind_none, Option.toList_some, Option.toList_none, List.nil_append, List.cons_append, ↓reduceIte, reduceCtorEq, cl1_i, cl1_r, cl1_n, cl1_0, cl1_J, okS_0, okS_1, okS_2, okS_3, okS_4, bB_0, bB_and, z_0, z_1, z_10, bB_t, bB_f, Bool.true_eq_false, Bool.false_eq_true, gT0, gT1, gT2, gT3, gT4, gT5, gT6, gF0, gF1, gF2, gF3, gF4, gS0, gS1, gC0, gC1, iT, iF, iS, iC, sT6_0, sT6_1, sF2, sF3, sF4_0, sF4_1, sS1, sC1, gM0, gM1, gM2, gM3, gM4, gM5, gM6, gM7, gM8, gM9, gM10, gM11, gM12, gM13, gM14, gM15, gM16, gM17, gM18, iM, sM5, sM6, sM11, sM12, sM13, sM14, sM16, sM18, sM2_0, sM2_1, sM3_0, sM3_1, sM4_0, sM4_1, mS_0, mS_1, mS_2, mS_3, mS_4, mS_5, mS_6, mS_7, mS_8, mS_9, mS_10, mS_11, mS_12, mS_13, mS_14, mS_15, mS_16, mS_17, mS_18, decide_true, decide_false, Bool.not_true, Bool.not_false, c110r, rdy_neg h]
  simp only [s115_11, Option.bind_some, Option.bind_none, Option.toList_some, Option.toList_none, List.nil_append, List.cons_append, ↓reduceIte, reduceCtorEq, cl1_i, cl1_r, cl1_n, cl1_0, cl1_J, okS_0, okS_1, okS_2, okS_3, okS_4, bB_0, bB_and, z_0, z_1, z_10, bB_t, bB_f, Bool.true_eq_false, Bool.false_eq_true, gT0, gT1, gT2, gT3, gT4, gT5, gT6, gF0, gF1, gF2, gF3, gF4, gS0, gS1, gC0, gC1, iT, iF, iS, iC, sT6_0, sT6_1, sF2, sF3, sF4_0, sF4_1, sS1, sC1]
theorem w115 (hd : f.2.2.2.2 = false) (hX : IX f Lo) (ht : tIn Lo d = false) : ∃ R', RunM 115 [.ref 61, .int d, .int x] (hp sc F s c th be qu mo li (hM (mS f (true) jl R O A))) = some (some (.int (-1)), (hp sc F s c th be qu mo li (hM (mS f (true) jl (R') O A)))) := by
  obtain ⟨R', r1⟩ := c109q (sc := sc) (F := F) (s := s) (c := c) (th := th) (be := be) (qu := qu) (mo := mo) (li := li) (f := f) (mt := true) (jl := jl) (R := R) (O := O) (A := A) hX (d := d)
  rw [ht] at r1
  refine ⟨R', ?_⟩
  simp only [e115, s115_0, s115_0n, s115_1, s115_4, s115_7, s115_7n, s115_8, s115_11, s115_12, s115_12n, s115_13, Option.bind_some, Option.bind_none, Option.toList_some, Option.toList_none, List.nil_append, List.cons_append, ↓reduceIte, reduceCtorEq, cl1_i, cl1_r, cl1_n, cl1_0, cl1_J, okS_0, okS_1, okS_2, okS_3, okS_4, bB_0, bB_and, z_0, z_1, z_10, bB_t, bB_f, Bool.true_eq_false, Bool.false_eq_true, gT0, gT1, gT2, gT3, gT4, gT5, gT6, gF0, gF1, gF2, gF3, gF4, gS0, gS1, gC0, gC1, iT, iF, iS, iC, sT6_0, sT6_1, sF2, sF3, sF4_0, sF4_1, sS1, sC1, gM0, gM1, gM2, gM3, gM4, gM5, gM6, gM7, gM8, gM9, gM10, gM11, gM12, gM13, gM14, gM15, gM16, gM17, gM18, iM, sM5, sM6, sM11, sM12, sM13, sM14, sM16, sM18, sM2_0, sM2_1, sM3_0, sM3_1, sM4_0, sM4_1, mS_0, mS_1, mS_2, mS_3, mS_4, mS_5, mS_6, mS_7, mS_8, mS_9, mS_10, mS_11, mS_12, mS_13, mS_14, mS_15, mS_16, mS_17, mS_18, decide_true, decide_false, Bool.not_true, Bool.not_false, c110r, rdy_t hd, z00]
  simp only [s115_14, Option.bind_some, Option.bind_none, Option.toList_some, Option.toList_none, List.nil_append, List.cons_append, ↓reduceIte, reduceCtorEq, cl1_i, cl1_r, cl1_n, cl1_0, cl1_J, okS_0, okS_1, okS_2, okS_3, okS_4, bB_0, bB_and, z_0, z_1, z_10, bB_t, bB_f, Bool.true_eq_false, Bool.false_eq_true, gT0, gT1, gT2, gT3, gT4, gT5, gT6, gF0, gF1, gF2, gF3, gF4, gS0, gS1, gC0, gC1, iT, iF, iS, iC, sT6_0, sT6_1, sF2, sF3, sF4_0, sF4_1, sS1, sC1, gM0, gM1, gM2, gM3, gM4, gM5, gM6, gM7, gM8, gM9, gM10, gM11, gM12, gM13, gM14, gM15, gM16, gM17, gM18, iM, sM5, sM6, sM11, sM12, sM13, sM14, sM16, sM18, sM2_0, sM2_1, sM3_0, sM3_1, sM4_0, sM4_1, mS_0, mS_1, mS_2, mS_3, mS_4, mS_5, mS_6, mS_7, mS_8, mS_9, mS_10, mS_11, mS_12, mS_13, mS_14, mS_15, mS_16, mS_17, mS_18, decide_true, decide_false, Bool.not_true, Bool.not_false, r1]
  simp only [s115_17, s115_27, s115_28, Option.bind_some, Option.bind_none, Option.toList_some, Option.toList_none, List.nil_append, List.cons_append, ↓reduceIte, reduceCtorEq, cl1_i, cl1_r, cl1_n, cl1_0, cl1_J, okS_0, okS_1, okS_2, okS_3, okS_4, bB_0, bB_and, z_0, z_1, z_10, bB_t, bB_f, Bool.true_eq_false, Bool.false_eq_true, gT0, gT1, gT2, gT3, gT4, gT5, gT6, gF0, gF1, gF2, gF3, gF4, gS0, gS1, gC0, gC1, iT, iF, iS, iC, sT6_0, sT6_1, sF2, sF3, sF4_0, sF4_1, sS1, sC1]
theorem l115 {s0 : Nat} (hs : s0 < 256) {a1 a2 a3 : Option Value} : ∀ (n p : Nat), n < 8 → p < 8 → Run 115 71 [some (.ref 61), a1, a2, a3, some (.int (nI s0)), some (.int (nI p)), some (.int (nI n))] [] (hp sc F s c th be qu mo li (hM (mS f mt jl R O A))) = Run 115 96 [some (.ref 61), a1, a2, a3, some (.int (nI s0)), some (.int (nI (mpr s0 n p))), some (.int 0)] [] (hp sc F s c th be qu mo li (hM (mS f mt jl R O A))) := by
  intro n
  induction n with
  | zero =>
    intro p hn hp
    simp only [s115_71, s115_73, Option.bind_some, Option.bind_none, Option.toList_some, Option.toList_none, List.nil_append, List.cons_append, ↓reduceIte, reduceCtorEq, cl1_i, cl1_r, cl1_n, cl1_0, cl1_J, okS_0, okS_1, okS_2, okS_3, okS_4, bB_0, bB_and, z_0, z_1, z_10, bB_t, bB_f, Bool.true_eq_false, Bool.false_eq_true, gT0, gT1, gT2, gT3, gT4, gT5, gT6, gF0, gF1, gF2, gF3, gF4, gS0, gS1, gC0, gC1, iT, iF, iS, iC, sT6_0, sT6_1, sF2, sF3, sF4_0, sF4_1, sS1, sC1, nI_0, z00, mpr]
  | succ n ih =>
    intro p hn hp
    have h3 : 0 < nI (n + 1) := by
      have := nI_lt (a := 0) (show 0 < n + 1 by omega) (by omega)
      rwa [nI_0] at this
    have e1 : nI (n + 1) + -1 = nI n := by
      rw [← Int32.sub_eq_add_neg, nI_pred]
    rw [s115_71]
    simp only [s115_73, s115_76, s115_78, s115_80, s115_81, s115_82, Option.bind_some, Option.bind_none, Option.toList_some, Option.toList_none, List.nil_append, List.cons_append, ↓reduceIte, reduceCtorEq, cl1_i, cl1_r, cl1_n, cl1_0, cl1_J, okS_0, okS_1, okS_2, okS_3, okS_4, bB_0, bB_and, z_0, z_1, z_10, bB_t, bB_f, Bool.true_eq_false, Bool.false_eq_true, gT0, gT1, gT2, gT3, gT4, gT5, gT6, gF0, gF1, gF2, gF3, gF4, gS0, gS1, gC0, gC1, iT, iF, iS, iC, sT6_0, sT6_1, sF2, sF3, sF4_0, sF4_1, sS1, sC1, h3, tst_bit _ hs _ hn]
    unfold mpr
    cases hb : s0.testBit (n + 1) with
    | true =>
      simp only [s115_83, s115_90, s115_93, Option.bind_some, Option.bind_none, Option.toList_some, Option.toList_none, List.nil_append, List.cons_append, ↓reduceIte, reduceCtorEq, cl1_i, cl1_r, cl1_n, cl1_0, cl1_J, okS_0, okS_1, okS_2, okS_3, okS_4, bB_0, bB_and, z_0, z_1, z_10, bB_t, bB_f, Bool.true_eq_false, Bool.false_eq_true, gT0, gT1, gT2, gT3, gT4, gT5, gT6, gF0, gF1, gF2, gF3, gF4, gS0, gS1, gC0, gC1, iT, iF, iS, iC, sT6_0, sT6_1, sF2, sF3, sF4_0, sF4_1, sS1, sC1, e1]
      exact ih p (by omega) hp
    | false =>
      simp only [s115_83, s115_86, s115_88, s115_90, s115_93, Option.bind_some, Option.bind_none, Option.toList_some, Option.toList_none, List.nil_append, List.cons_append, ↓reduceIte, reduceCtorEq, cl1_i, cl1_r, cl1_n, cl1_0, cl1_J, okS_0, okS_1, okS_2, okS_3, okS_4, bB_0, bB_and, z_0, z_1, z_10, bB_t, bB_f, Bool.true_eq_false, Bool.false_eq_true, gT0, gT1, gT2, gT3, gT4, gT5, gT6, gF0, gF1, gF2, gF3, gF4, gS0, gS1, gC0, gC1, iT, iF, iS, iC, sT6_0, sT6_1, sF2, sF3, sF4_0, sF4_1, sS1, sC1, e1]
      exact ih (n + 1) (by omega) hn
theorem s115 (hd : f.2.2.2.2 = false) (hX : IX f Lo) (hq : q < 8) (hb : (froS (lsO Lo) 0).testBit q = true) : ∃ R' y, RunM 115 [.ref 61, .int (nI q), .int x] (hp sc F s c th be qu mo li (hM (mS f (true) jl R O A))) = if mkV (lsO Lo q).1 x = 0 then Run 115 96 [some (.ref 61), some (.int (nI q)), some (.int x), some (.int y), some (.int (nI (froS (lsO Lo) 0))), some (.int (nI (mpr (froS (lsO Lo) 0) 7 0))), some (.int 0)] [] (hp sc F s c th be qu mo li (hM (mS f (true) jl (R') O A))) else some (some (.int (mkV (lsO Lo q).1 x)), (hp sc F s c th be qu mo li (hM (mS f (true) jl (R') O A)))) := by
  obtain ⟨R1, r1⟩ := c109q (sc := sc) (F := F) (s := s) (c := c) (th := th) (be := be) (qu := qu) (mo := mo) (li := li) (f := f) (mt := true) (jl := jl) (R := R) (O := O) (A := A) hX (d := nI q)
  rw [tIn_nI hq, hb] at r1
  obtain ⟨R2, r2, r3⟩ := c101q (sc := sc) (F := F) (s := s) (c := c) (th := th) (be := be) (qu := qu) (mo := mo) (li := li) (f := f) (mt := true) (jl := jl) (R := R1) (O := O) (A := A) hX hq
  have h4 := r3.1
  have st1 : RunM 115 [.ref 61, .int (nI q), .int x] (hp sc F s c th be qu mo li (hM (mS f (true) jl R O A))) = Run 115 24 [some (.ref 61), some (.int (nI q)), some (.int x), none, none, none, none] [.int (bB (nmOk x))] (hp sc F s c th be qu mo li (hM (mS f (true) jl (R1) O A))) := by
    simp only [e115, s115_0, s115_0n, s115_1, s115_4, s115_7, s115_7n, s115_8, s115_11, s115_12, s115_12n, s115_13, Option.bind_some, Option.bind_none, Option.toList_some, Option.toList_none, List.nil_append, List.cons_append, ↓reduceIte, reduceCtorEq, cl1_i, cl1_r, cl1_n, cl1_0, cl1_J, okS_0, okS_1, okS_2, okS_3, okS_4, bB_0, bB_and, z_0, z_1, z_10, bB_t, bB_f, Bool.true_eq_false, Bool.false_eq_true, gT0, gT1, gT2, gT3, gT4, gT5, gT6, gF0, gF1, gF2, gF3, gF4, gS0, gS1, gC0, gC1, iT, iF, iS, iC, sT6_0, sT6_1, sF2, sF3, sF4_0, sF4_1, sS1, sC1, gM0, gM1, gM2, gM3, gM4, gM5, gM6, gM7, gM8, gM9, gM10, gM11, gM12, gM13, gM14, gM15, gM16, gM17, gM18, iM, sM5, sM6, sM11, sM12, sM13, sM14, sM16, sM18, sM2_0, sM2_1, sM3_0, sM3_1, sM4_0, sM4_1, mS_0, mS_1, mS_2, mS_3, mS_4, mS_5, mS_6, mS_7, mS_8, mS_9, mS_10, mS_11, mS_12, mS_13, mS_14, mS_15, mS_16, mS_17, mS_18, decide_true, decide_false, Bool.not_true, Bool.not_false, c110r, rdy_t hd, z00]
    simp only [s115_14, s115_17, s115_20, Option.bind_some, Option.bind_none, Option.toList_some, Option.toList_none, List.nil_append, List.cons_append, ↓reduceIte, reduceCtorEq, cl1_i, cl1_r, cl1_n, cl1_0, cl1_J, okS_0, okS_1, okS_2, okS_3, okS_4, bB_0, bB_and, z_0, z_1, z_10, bB_t, bB_f, Bool.true_eq_false, Bool.false_eq_true, gT0, gT1, gT2, gT3, gT4, gT5, gT6, gF0, gF1, gF2, gF3, gF4, gS0, gS1, gC0, gC1, iT, iF, iS, iC, sT6_0, sT6_1, sF2, sF3, sF4_0, sF4_1, sS1, sC1, gM0, gM1, gM2, gM3, gM4, gM5, gM6, gM7, gM8, gM9, gM10, gM11, gM12, gM13, gM14, gM15, gM16, gM17, gM18, iM, sM5, sM6, sM11, sM12, sM13, sM14, sM16, sM18, sM2_0, sM2_1, sM3_0, sM3_1, sM4_0, sM4_1, mS_0, mS_1, mS_2, mS_3, mS_4, mS_5, mS_6, mS_7, mS_8, mS_9, mS_10, mS_11, mS_12, mS_13, mS_14, mS_15, mS_16, mS_17, mS_18, decide_true, decide_false, Bool.not_true, Bool.not_false, r1]
    simp only [s115_21, Option.bind_some, Option.bind_none, Option.toList_some, Option.toList_none, List.nil_append, List.cons_append, ↓reduceIte, reduceCtorEq, cl1_i, cl1_r, cl1_n, cl1_0, cl1_J, okS_0, okS_1, okS_2, okS_3, okS_4, bB_0, bB_and, z_0, z_1, z_10, bB_t, bB_f, Bool.true_eq_false, Bool.false_eq_true, gT0, gT1, gT2, gT3, gT4, gT5, gT6, gF0, gF1, gF2, gF3, gF4, gS0, gS1, gC0, gC1, iT, iF, iS, iC, sT6_0, sT6_1, sF2, sF3, sF4_0, sF4_1, sS1, sC1, c114]
  unfold mkV
  cases hn : nmOk x with
  | false =>
    refine ⟨R1, 0, ?_⟩
    rw [st1, hn]
    simp only [s115_24, s115_27, s115_28, Option.bind_some, Option.bind_none, Option.toList_some, Option.toList_none, List.nil_append, List.cons_append, ↓reduceIte, reduceCtorEq, cl1_i, cl1_r, cl1_n, cl1_0, cl1_J, okS_0, okS_1, okS_2, okS_3, okS_4, bB_0, bB_and, z_0, z_1, z_10, bB_t, bB_f, Bool.true_eq_false, Bool.false_eq_true, gT0, gT1, gT2, gT3, gT4, gT5, gT6, gF0, gF1, gF2, gF3, gF4, gS0, gS1, gC0, gC1, iT, iF, iS, iC, sT6_0, sT6_1, sF2, sF3, sF4_0, sF4_1, sS1, sC1, show ¬ (-1 : Int32) = 0 by decide]
  | true =>
    have st2 : RunM 115 [.ref 61, .int (nI q), .int x] (hp sc F s c th be qu mo li (hM (mS f (true) jl R O A))) = Run 115 40 [some (.ref 61), some (.int (nI q)), some (.int x), some (.int (oI (act f q))), none, none, none] [.int (oI (fiE (lsO Lo q).1 x))] (hp sc F s c th be qu mo li (hM (mS f (true) jl (R2) O A))) := by
      rw [st1, hn]
      simp only [s115_24, s115_29, s115_29n, s115_30, s115_31, Option.bind_some, Option.bind_none, Option.toList_some, Option.toList_none, List.nil_append, List.cons_append, ↓reduceIte, reduceCtorEq, cl1_i, cl1_r, cl1_n, cl1_0, cl1_J, okS_0, okS_1, okS_2, okS_3, okS_4, bB_0, bB_and, z_0, z_1, z_10, bB_t, bB_f, Bool.true_eq_false, Bool.false_eq_true, gT0, gT1, gT2, gT3, gT4, gT5, gT6, gF0, gF1, gF2, gF3, gF4, gS0, gS1, gC0, gC1, iT, iF, iS, iC, sT6_0, sT6_1, sF2, sF3, sF4_0, sF4_1, sS1, sC1, gM0, gM1, gM2, gM3, gM4, gM5, gM6, gM7, gM8, gM9, gM10, gM11, gM12, gM13, gM14, gM15, gM16, gM17, gM18, iM, sM5, sM6, sM11, sM12, sM13, sM14, sM16, sM18, sM2_0, sM2_1, sM3_0, sM3_1, sM4_0, sM4_1, mS_0, mS_1, mS_2, mS_3, mS_4, mS_5, mS_6, mS_7, mS_8, mS_9, mS_10, mS_11, mS_12, mS_13, mS_14, mS_15, mS_16, mS_17, mS_18, decide_true, decide_false, Bool.not_true, Bool.not_false, r2]
      simp only [s115_34, s115_35, s115_35n, s115_36, s115_37, Option.bind_some, Option.bind_none, Option.toList_some, Option.toList_none, List.nil_append, List.cons_append, ↓reduceIte, reduceCtorEq, cl1_i, cl1_r, cl1_n, cl1_0, cl1_J, okS_0, okS_1, okS_2, okS_3, okS_4, bB_0, bB_and, z_0, z_1, z_10, bB_t, bB_f, Bool.true_eq_false, Bool.false_eq_true, gT0, gT1, gT2, gT3, gT4, gT5, gT6, gF0, gF1, gF2, gF3, gF4, gS0, gS1, gC0, gC1, iT, iF, iS, iC, sT6_0, sT6_1, sF2, sF3, sF4_0, sF4_1, sS1, sC1, gM0, gM1, gM2, gM3, gM4, gM5, gM6, gM7, gM8, gM9, gM10, gM11, gM12, gM13, gM14, gM15, gM16, gM17, gM18, iM, sM5, sM6, sM11, sM12, sM13, sM14, sM16, sM18, sM2_0, sM2_1, sM3_0, sM3_1, sM4_0, sM4_1, mS_0, mS_1, mS_2, mS_3, mS_4, mS_5, mS_6, mS_7, mS_8, mS_9, mS_10, mS_11, mS_12, mS_13, mS_14, mS_15, mS_16, mS_17, mS_18, decide_true, decide_false, Bool.not_true, Bool.not_false, c97 r3]
    cases hf : fiE (lsO Lo q).1 x with
    | some k =>
      have hkp : ¬ nI k < 0 := nI_pos (by have := (fiE_lt hf).1; omega)
      refine ⟨R2, 0, ?_⟩
      rw [st2, hf]
      simp only [s115_40, s115_43, s115_45, Option.bind_some, Option.bind_none, Option.toList_some, Option.toList_none, List.nil_append, List.cons_append, ↓reduceIte, reduceCtorEq, cl1_i, cl1_r, cl1_n, cl1_0, cl1_J, okS_0, okS_1, okS_2, okS_3, okS_4, bB_0, bB_and, z_0, z_1, z_10, bB_t, bB_f, Bool.true_eq_false, Bool.false_eq_true, gT0, gT1, gT2, gT3, gT4, gT5, gT6, gF0, gF1, gF2, gF3, gF4, gS0, gS1, gC0, gC1, iT, iF, iS, iC, sT6_0, sT6_1, sF2, sF3, sF4_0, sF4_1, sS1, sC1, oI_s, hkp, show ¬ (-2 : Int32) = 0 by decide]
    | none =>
      have hm : (-1 : Int32) < 0 := by decide
      by_cases h5 : (lsO Lo q).1.length = 4
      · refine ⟨R2, 0, ?_⟩
        rw [st2, hf]
        simp only [s115_40, s115_46, s115_46n, s115_47, s115_50, s115_51, s115_54, s115_56, Option.bind_some, Option.bind_none, Option.toList_some, Option.toList_none, List.nil_append, List.cons_append, ↓reduceIte, reduceCtorEq, cl1_i, cl1_r, cl1_n, cl1_0, cl1_J, okS_0, okS_1, okS_2, okS_3, okS_4, bB_0, bB_and, z_0, z_1, z_10, bB_t, bB_f, Bool.true_eq_false, Bool.false_eq_true, gT0, gT1, gT2, gT3, gT4, gT5, gT6, gF0, gF1, gF2, gF3, gF4, gS0, gS1, gC0, gC1, iT, iF, iS, iC, sT6_0, sT6_1, sF2, sF3, sF4_0, sF4_1, sS1, sC1, gM0, gM1, gM2, gM3, gM4, gM5, gM6, gM7, gM8, gM9, gM10, gM11, gM12, gM13, gM14, gM15, gM16, gM17, gM18, iM, sM5, sM6, sM11, sM12, sM13, sM14, sM16, sM18, sM2_0, sM2_1, sM3_0, sM3_1, sM4_0, sM4_1, mS_0, mS_1, mS_2, mS_3, mS_4, mS_5, mS_6, mS_7, mS_8, mS_9, mS_10, mS_11, mS_12, mS_13, mS_14, mS_15, mS_16, mS_17, mS_18, decide_true, decide_false, Bool.not_true, Bool.not_false, oI_n, hm, r3.2.1, h5, show nI 4 = 4 from rfl, show ¬ (-3 : Int32) = 0 by decide]
      · have h6 : ¬ nI (lsO Lo q).1.length = 4 := fun e => h5 ((nI_eq (b := 4) (by omega) (by decide)).mp e)
        obtain ⟨R3, r4⟩ := c108q (sc := sc) (F := F) (s := s) (c := c) (th := th) (be := be) (qu := qu) (mo := mo) (li := li) (f := f) (mt := true) (jl := jl) (R := R2) (O := O) (A := A) hX (a := 0) (by decide)
        rw [nI_0] at r4
        have hlp := l115 (sc := sc) (F := F) (s := s) (c := c) (th := th) (be := be) (qu := qu) (mo := mo) (li := li) (f := f) (mt := true) (jl := jl) (R := R3) (O := O) (A := A) (hX.rc (a := 0) (by decide)).1 (a1 := some (.int (nI q))) (a2 := some (.int x)) (a3 := some (.int (oI (act f q)))) 7 0 (by decide) (by decide)
        rw [nI_0, show nI 7 = 7 from rfl] at hlp
        refine ⟨R3, oI (act f q), ?_⟩
        rw [st2, hf, if_pos rfl]
        simp only [h5, if_true, if_false]
        rw [← hlp]
        simp only [s115_40, s115_46, s115_46n, s115_47, s115_50, s115_51, s115_54, s115_56, s115_57, s115_57n, s115_58, Option.bind_some, Option.bind_none, Option.toList_some, Option.toList_none, List.nil_append, List.cons_append, ↓reduceIte, reduceCtorEq, cl1_i, cl1_r, cl1_n, cl1_0, cl1_J, okS_0, okS_1, okS_2, okS_3, okS_4, bB_0, bB_and, z_0, z_1, z_10, bB_t, bB_f, Bool.true_eq_false, Bool.false_eq_true, gT0, gT1, gT2, gT3, gT4, gT5, gT6, gF0, gF1, gF2, gF3, gF4, gS0, gS1, gC0, gC1, iT, iF, iS, iC, sT6_0, sT6_1, sF2, sF3, sF4_0, sF4_1, sS1, sC1, gM0, gM1, gM2, gM3, gM4, gM5, gM6, gM7, gM8, gM9, gM10, gM11, gM12, gM13, gM14, gM15, gM16, gM17, gM18, iM, sM5, sM6, sM11, sM12, sM13, sM14, sM16, sM18, sM2_0, sM2_1, sM3_0, sM3_1, sM4_0, sM4_1, mS_0, mS_1, mS_2, mS_3, mS_4, mS_5, mS_6, mS_7, mS_8, mS_9, mS_10, mS_11, mS_12, mS_13, mS_14, mS_15, mS_16, mS_17, mS_18, decide_true, decide_false, Bool.not_true, Bool.not_false, oI_n, hm, r3.2.1, h6]
        simp only [s115_59, s115_62, s115_64, s115_65, s115_67, s115_69, Option.bind_some, Option.bind_none, Option.toList_some, Option.toList_none, List.nil_append, List.cons_append, ↓reduceIte, reduceCtorEq, cl1_i, cl1_r, cl1_n, cl1_0, cl1_J, okS_0, okS_1, okS_2, okS_3, okS_4, bB_0, bB_and, z_0, z_1, z_10, bB_t, bB_f, Bool.true_eq_false, Bool.false_eq_true, gT0, gT1, gT2, gT3, gT4, gT5, gT6, gF0, gF1, gF2, gF3, gF4, gS0, gS1, gC0, gC1, iT, iF, iS, iC, sT6_0, sT6_1, sF2, sF3, sF4_0, sF4_1, sS1, sC1, gM0, gM1, gM2, gM3, gM4, gM5, gM6, gM7, gM8, gM9, gM10, gM11, gM12, gM13, gM14, gM15, gM16, gM17, gM18, iM, sM5, sM6, sM11, sM12, sM13, sM14, sM16, sM18, sM2_0, sM2_1, sM3_0, sM3_1, sM4_0, sM4_1, mS_0, mS_1, mS_2, mS_3, mS_4, mS_5, mS_6, mS_7, mS_8, mS_9, mS_10, mS_11, mS_12, mS_13, mS_14, mS_15, mS_16, mS_17, mS_18, decide_true, decide_false, Bool.not_true, Bool.not_false, r4]
end MKM
section BM
variable {sc : AC} {d x : Int32}
theorem B59 : Bo sc 59 115 [.int d, .int x] := by
  rintro H ⟨f, s, c, th, be, qu, mt, li, jl, R, O, A, Lo, rfl, hX, hS, hU⟩
  cases mt with
  | false => exact boS hX hS hU (n59 (Lo := Lo) (fun h => by cases h)) ⟨R, O, u115 rfl⟩
  | true =>
    obtain ⟨hd, h0, hno, hA, hT⟩ := hU rfl
    cases ht : tIn Lo d with
    | false =>
      obtain ⟨R', r1⟩ := w115 (sc := sc) (F := fB f) (s := s) (c := c) (th := th) (be := be) (qu := qu) (mo := bB true) (li := li) (f := f) (jl := jl) (R := R) (O := O) (A := A) hd hX (x := x) ht
      rw [← refu_t hd] at r1
      exact boS hX hS hU (n59 (Lo := Lo) (fun _ => ⟨hT, ht⟩)) ⟨R', O, r1⟩
    | true =>
      obtain ⟨q, hq, rfl, hb⟩ := tIn_q ht
      have hr0 := ((hX.rc (a := 0) (by decide)).2 q).mp hb
      have e1 := s59 (sc := sc) (F := fB f) (s := s) (c := c) (be := be) (qu := qu) (mm := hM (mS f true jl R O A)) (x := x) hT hA hq hb
      have mod := fun (F : FlS) (s c : OpS) (th be qu : Nat → Int32) (mo : Int32) (li : Nat → LiS) => s115 (sc := sc) (F := F) (s := s) (c := c) (th := th) (be := be) (qu := qu) (mo := mo) (li := li) (jl := jl) (R := R) (O := O) (A := A) (x := x) hd hX hq hb
      by_cases hV : mkV (lsO Lo q).1 x = 0
      · rw [if_pos hV] at e1
        have hs := (hX.rc (a := 0) (by decide)).1
        have hb0 : (froS (lsO Lo) 0).testBit 0 = true := ((hX.rc (a := 0) (by decide)).2 0).mpr Rch.rf
        rcases low_mpr hs hb0 with ⟨l1, l2⟩ | ⟨p, l1, hp1, hp8, l2, hpb⟩
        · -- no pair is free
          obtain ⟨R2, y2, m3⟩ := mod (fB f) s c th be qu 1 li
          rw [if_pos hV, l2] at m3
          rw [l1] at e1
          refine boS hX hS hU (v := some (.int (-4))) (e1.trans ?_) ⟨R2, O, m3.trans ?_⟩
          · simp only [s59_61, s59_64, s59_64n, s59_66, s59_66n, s59_68, s59_68n, s59_71, s59_73, Option.bind_some, Option.bind_none, Option.toList_some, Option.toList_none, List.nil_append, List.cons_append, ↓reduceIte, reduceCtorEq, cl1_i, cl1_r, cl1_n, cl1_0, cl1_J, okS_0, okS_1, okS_2, okS_3, okS_4, bB_0, bB_and, z_0, z_1, z_10, bB_t, bB_f, Bool.true_eq_false, Bool.false_eq_true, gT0, gT1, gT2, gT3, gT4, gT5, gT6, gF0, gF1, gF2, gF3, gF4, gS0, gS1, gC0, gC1, iT, iF, iS, iC, sT6_0, sT6_1, sF2, sF3, sF4_0, sF4_1, sS1, sC1, oI_n, c76n (show inB (-1) 8 = false by decide)]
          · simp only [s115_96, s115_98, s115_101, s115_103, Option.bind_some, Option.bind_none, Option.toList_some, Option.toList_none, List.nil_append, List.cons_append, ↓reduceIte, reduceCtorEq, cl1_i, cl1_r, cl1_n, cl1_0, cl1_J, okS_0, okS_1, okS_2, okS_3, okS_4, bB_0, bB_and, z_0, z_1, z_10, bB_t, bB_f, Bool.true_eq_false, Bool.false_eq_true, gT0, gT1, gT2, gT3, gT4, gT5, gT6, gF0, gF1, gF2, gF3, gF4, gS0, gS1, gC0, gC1, iT, iF, iS, iC, sT6_0, sT6_1, sF2, sF3, sF4_0, sF4_1, sS1, sC1, nI_0]
        · have hpr : ¬ Rch (lsO Lo) 0 p := fun h => by
            have := ((hX.rc (a := 0) (by decide)).2 p).mpr h
            rw [hpb] at this
            cases this
          have hqp : q ≠ p := fun e => hpr (e ▸ hr0)
          have hV2 := hV
          unfold mkV at hV2
          have hnm : nmOk x = true := by
            cases hn : nmOk x with
            | true => rfl
            | false => rw [hn, if_neg (by decide)] at hV2; exact absurd hV2 (by decide)
          obtain ⟨a, ha1, ha2, rfl⟩ := nm_of hnm
          rw [if_pos hnm] at hV2
          have hst : ∃ st, Lo q = some st := by
            by_cases hq0 : q = 0
            · subst hq0; exact Option.isSome_iff_exists.mp h0
            · exact Option.isSome_iff_exists.mp (hS.1 q hr0 hq0)
          obtain ⟨st, hst⟩ := hst
          have hls := lsO_of hst
          rw [hls] at hV2
          -- begin
          obtain ⟨l1', s1, r5, r6⟩ := c16q (sc := sc) (s := s) (c := opf c.1 [2, nI a, nI p]) (th := th) (be := be) (qu := qu) (mo := 1) (li := li) (mm := hM (mS f true jl R O A)) hX hp8
          obtain ⟨b1, b2⟩ := hX.bg hp8
          obtain ⟨dk1, dk2⟩ := bgq_dark (f := f) (q := p)
          have hcls : RunM 59 [.ref 1, .int (nI q), .int (nI a)] (hp sc (fB f) s c th be qu (bB (true)) li (hM (mS f (true) jl R O A))) = Run 59 97 [some (.ref 1), some (.int (nI q)), some (.int (nI a)), some (.ref (13 + 6 * q)), some (.int (nI p)), some (.ref (13 + 6 * p))] [.int (bB (bgq f p).1), .ref 1] (hp sc (fB (bgq f p).2) s1 (opf c.1 [2, nI a, nI p]) th be qu 1 (upL li p l1') (hM (mS f true jl R O A))) := by
            rw [l1] at e1
            refine e1.trans ?_
            simp only [s59_61, s59_64, s59_64n, s59_66, s59_66n, s59_68, s59_68n, Option.bind_some, Option.bind_none, Option.toList_some, Option.toList_none, List.nil_append, List.cons_append, ↓reduceIte, reduceCtorEq, cl1_i, cl1_r, cl1_n, cl1_0, cl1_J, okS_0, okS_1, okS_2, okS_3, okS_4, bB_0, bB_and, z_0, z_1, z_10, bB_t, bB_f, Bool.true_eq_false, Bool.false_eq_true, gT0, gT1, gT2, gT3, gT4, gT5, gT6, gF0, gF1, gF2, gF3, gF4, gS0, gS1, gC0, gC1, iT, iF, iS, iC, sT6_0, sT6_1, sF2, sF3, sF4_0, sF4_1, sS1, sC1, oI_s, c76 hp8]
            simp only [s59_74, s59_74n, s59_75, s59_78, Option.bind_some, Option.bind_none, Option.toList_some, Option.toList_none, List.nil_append, List.cons_append, ↓reduceIte, reduceCtorEq, cl1_i, cl1_r, cl1_n, cl1_0, cl1_J, okS_0, okS_1, okS_2, okS_3, okS_4, bB_0, bB_and, z_0, z_1, z_10, bB_t, bB_f, Bool.true_eq_false, Bool.false_eq_true, gT0, gT1, gT2, gT3, gT4, gT5, gT6, gF0, gF1, gF2, gF3, gF4, gS0, gS1, gC0, gC1, iT, iF, iS, iC, sT6_0, sT6_1, sF2, sF3, sF4_0, sF4_1, sS1, sC1, c43c]
            simp only [s59_81, s59_81n, s59_82, s59_85, s59_86, s59_88, Option.bind_some, Option.bind_none, Option.toList_some, Option.toList_none, List.nil_append, List.cons_append, ↓reduceIte, reduceCtorEq, cl1_i, cl1_r, cl1_n, cl1_0, cl1_J, okS_0, okS_1, okS_2, okS_3, okS_4, bB_0, bB_and, z_0, z_1, z_10, bB_t, bB_f, Bool.true_eq_false, Bool.false_eq_true, gT0, gT1, gT2, gT3, gT4, gT5, gT6, gF0, gF1, gF2, gF3, gF4, gS0, gS1, gC0, gC1, iT, iF, iS, iC, sT6_0, sT6_1, sF2, sF3, sF4_0, sF4_1, sS1, sC1, c48c (show ([] : List Int32).length + 3 ≤ 64 by decide), List.nil_append]
            simp only [s59_91, s59_91n, s59_92, s59_92n, s59_94, Option.bind_some, Option.bind_none, Option.toList_some, Option.toList_none, List.nil_append, List.cons_append, ↓reduceIte, reduceCtorEq, cl1_i, cl1_r, cl1_n, cl1_0, cl1_J, okS_0, okS_1, okS_2, okS_3, okS_4, bB_0, bB_and, z_0, z_1, z_10, bB_t, bB_f, Bool.true_eq_false, Bool.false_eq_true, gT0, gT1, gT2, gT3, gT4, gT5, gT6, gF0, gF1, gF2, gF3, gF4, gS0, gS1, gC0, gC1, iT, iF, iS, iC, sT6_0, sT6_1, sF2, sF3, sF4_0, sF4_1, sS1, sC1, iO_ hp8, r5]
          have hmod : ∀ (F : FlS) (s c : OpS) (th be qu : Nat → Int32) (mo : Int32) (li : Nat → LiS), ∃ R' A' y, RunM 115 [.ref 61, .int (nI q), .int (nI a)] (hp sc F s c th be qu mo li (hM (mS f (true) jl R O A))) = Run 115 110 [some (.ref 61), some (.int (nI q)), some (.int (nI a)), some (.int y), some (.int (nI (froS (lsO Lo) 0))), some (.int (nI p)), some (.int 0)] [.int (bB (bgq f p).1)] (hp sc F s c th be qu mo li (hM (mS ((bgq f p).2) ((bgq f p).1) (jA (bgq f p).1 jl) (R') O (A')))) := by
            intro F s c th be qu mo li
            obtain ⟨R2, y2, m3⟩ := mod F s c th be qu mo li
            rw [if_pos hV, l2] at m3
            obtain ⟨R3, A3, r8⟩ := c106q (sc := sc) (F := F) (s := s) (c := c) (th := th) (be := be) (qu := qu) (mo := mo) (li := li) (f := f) (mt := true) (jl := jl) (R := R2) (O := O) (A := A) hd hX hp8
            rw [Bool.and_true] at r8
            refine ⟨R3, A3, y2, m3.trans ?_⟩
            have hpn : ¬ nI p = 0 := nI_ne0 (by omega) (by omega)
            simp only [s115_96, s115_98, s115_104, s115_104n, s115_105, s115_107, Option.bind_some, Option.bind_none, Option.toList_some, Option.toList_none, List.nil_append, List.cons_append, ↓reduceIte, reduceCtorEq, cl1_i, cl1_r, cl1_n, cl1_0, cl1_J, okS_0, okS_1, okS_2, okS_3, okS_4, bB_0, bB_and, z_0, z_1, z_10, bB_t, bB_f, Bool.true_eq_false, Bool.false_eq_true, gT0, gT1, gT2, gT3, gT4, gT5, gT6, gF0, gF1, gF2, gF3, gF4, gS0, gS1, gC0, gC1, iT, iF, iS, iC, sT6_0, sT6_1, sF2, sF3, sF4_0, sF4_1, sS1, sC1, gM0, gM1, gM2, gM3, gM4, gM5, gM6, gM7, gM8, gM9, gM10, gM11, gM12, gM13, gM14, gM15, gM16, gM17, gM18, iM, sM5, sM6, sM11, sM12, sM13, sM14, sM16, sM18, sM2_0, sM2_1, sM3_0, sM3_1, sM4_0, sM4_1, mS_0, mS_1, mS_2, mS_3, mS_4, mS_5, mS_6, mS_7, mS_8, mS_9, mS_10, mS_11, mS_12, mS_13, mS_14, mS_15, mS_16, mS_17, mS_18, decide_true, decide_false, Bool.not_true, Bool.not_false, hpn, r8]
          cases hr : (bgq f p).1 with
          | false =>
            obtain ⟨R', A', y2, m9⟩ := hmod (fB (bgq f p).2) s1 (opf c.1 [2, nI a, nI p]) th be qu 0 (upL li p l1')
            rw [hr] at m9 hcls
            refine ⟨some (.int (-9)), (hp sc (fB ((bgq f p).2)) (s1) (opf c.1 [2, nI a, nI p]) th be qu (bB (false)) (upL li p l1') (hM (mS f (true) jl R O A))), (hp sc (fB ((bgq f p).2)) (s1) (opf c.1 [2, nI a, nI p]) th be qu (bB (false)) (upL li p l1') (hM (mS ((bgq f p).2) (false) (jA false jl) (R') O (A')))), hcls.trans ?_, m9.trans ?_, mkI (b2 hr) hS (fun h => by cases h)⟩
            · simp only [s59_97, s59_115, s59_116, s59_118, Option.bind_some, Option.bind_none, Option.toList_some, Option.toList_none, List.nil_append, List.cons_append, ↓reduceIte, reduceCtorEq, cl1_i, cl1_r, cl1_n, cl1_0, cl1_J, okS_0, okS_1, okS_2, okS_3, okS_4, bB_0, bB_and, z_0, z_1, z_10, bB_t, bB_f, Bool.true_eq_false, Bool.false_eq_true, gT0, gT1, gT2, gT3, gT4, gT5, gT6, gF0, gF1, gF2, gF3, gF4, gS0, gS1, gC0, gC1, iT, iF, iS, iC, sT6_0, sT6_1, sF2, sF3, sF4_0, sF4_1, sS1, sC1, c73f]
              simp only [s59_121, Option.bind_some, Option.bind_none, Option.toList_some, Option.toList_none, List.nil_append, List.cons_append, ↓reduceIte, reduceCtorEq, cl1_i, cl1_r, cl1_n, cl1_0, cl1_J, okS_0, okS_1, okS_2, okS_3, okS_4, bB_0, bB_and, z_0, z_1, z_10, bB_t, bB_f, Bool.true_eq_false, Bool.false_eq_true, gT0, gT1, gT2, gT3, gT4, gT5, gT6, gF0, gF1, gF2, gF3, gF4, gS0, gS1, gC0, gC1, iT, iF, iS, iC, sT6_0, sT6_1, sF2, sF3, sF4_0, sF4_1, sS1, sC1]
            · simp only [s115_110, s115_113, s115_115, Option.bind_some, Option.bind_none, Option.toList_some, Option.toList_none, List.nil_append, List.cons_append, ↓reduceIte, reduceCtorEq, cl1_i, cl1_r, cl1_n, cl1_0, cl1_J, okS_0, okS_1, okS_2, okS_3, okS_4, bB_0, bB_and, z_0, z_1, z_10, bB_t, bB_f, Bool.true_eq_false, Bool.false_eq_true, gT0, gT1, gT2, gT3, gT4, gT5, gT6, gF0, gF1, gF2, gF3, gF4, gS0, gS1, gC0, gC1, iT, iF, iS, iC, sT6_0, sT6_1, sF2, sF3, sF4_0, sF4_1, sS1, sC1]
          | true =>
            have hX1 := b1 hr
            have hd1 := dk2 hr
            have hst1 : upO Lo p (some nilL) q = some st := by rw [upO_ne _ _ hqp]; exact hst
            have hrc1 := mk_rch hpr (some nilL)
            have hA1 : LiA (upO Lo p (some nilL)) (upL li p l1') := hA.up (st := nilL) r6
            have hLq : LiR (upL li p l1' q) st.1 st.2 := by
              have := hA1 q hq
              rwa [lsO_of hst1] at this
            have hS1 : Sh (upO Lo p (some nilL)) := ⟨fun x hx hn => by
              have hx' := (hrc1 x).mp hx
              have hxp : x ≠ p := fun e => hpr (e ▸ hx')
              rw [upO_ne _ _ hxp]
              exact hS.1 x hx' hn, fun x y hx hy h1 h2 => by
              have hx' := (hrc1 x).mp hx
              have hxp : x ≠ p := fun e => hpr (e ▸ hx')
              rw [lsO_ne _ _ hxp] at h1
              exact absurd (hno x hx') h1⟩
            have h01 : (upO Lo p (some nilL) 0).isSome = true := by
              rw [upO_ne _ _ (by omega)]
              exact h0
            have hno1 : ∀ x, Rch (lsO (upO Lo p (some nilL))) 0 x → (lsO (upO Lo p (some nilL)) x).2 = none := fun x hx => by
              have hx' := (hrc1 x).mp hx
              have hxp : x ≠ p := fun e => hpr (e ▸ hx')
              rw [lsO_ne _ _ hxp]
              exact hno x hx'
            let o : Opn := (2, a, p, [])
            have hoO : OkO o := Or.inr (Or.inl ⟨rfl, ha1, ha2, hp8⟩)
            have hfit : FitO st o := fun _ hf => by
              show st.1.length < 4
              have hf' : fiE st.1 (nI a) = none := hf
              rw [hf'] at hV2
              dsimp only at hV2
              have := hLq.1
              by_cases h4 : st.1.length = 4
              · rw [if_pos h4] at hV2; exact absurd hV2 (by decide)
              · omega
            have hF : FitS st [o] := FitS_one hoO hfit
            have henc : encS [o] = [2, nI a, nI p] := rfl
            have hlen : (encS [o]).length ≤ 32 := by rw [henc]; exact Nat.le_of_ble_eq_true rfl
            have hno2 : (apS st [o]).2 = none := by
              have := hno q hr0
              rw [hls] at this
              exact this
            have hkid : ∀ y ∈ kids (apS st [o]).1, Rch (lsO (upO Lo p (some nilL))) 0 y ∨ upO Lo p (some nilL) y = some nilL := fun y hy => by
              rcases kids_put (es := st.1) (e := (a, 2, p, 0)) hy with h9 | ⟨-, h9⟩
              · exact Or.inl (((hrc1 q).mpr hr0).step (by rw [lsO_of hst1]; exact h9))
              · subst h9
                exact Or.inr (upO_self _ _ _)
            obtain ⟨f1, f2, f3⟩ := finC hS1 h01 hno1 (q := q) hkid hno2
            obtain ⟨l', s', r7, r9⟩ := c17q (sc := sc) (f := (bgq f p).2) (s := s1) (th := th) (be := be) (qu := qu) (mo := 1) (mm := hM (mS f true jl R O A)) (li := upL li p l1') hX1 hq hst1 hLq hF hlen (j := c.1)
            obtain ⟨x1, x2⟩ := hX1.cm hq hst1 hF
            obtain ⟨dk3, dk4⟩ := cmq_dark (f := (bgq f p).2) (q := q) (os := [o]) (st := st) hd1
            rw [hr] at hcls
            have hcls2 : RunM 59 [.ref 1, .int (nI q), .int (nI a)] (hp sc (fB f) s c th be qu (bB (true)) li (hM (mS f (true) jl R O A))) = Run 59 108 [some (.ref 1), some (.int (nI q)), some (.int (nI a)), some (.ref (13 + 6 * q)), some (.int (nI p)), some (.ref (13 + 6 * p))] [.int (bB (cmq (bgq f p).2 q [o] st).1), .ref 1] (hp sc (fB (cmq (bgq f p).2 q [o] st).2) s' (opf c.1 (encS [o])) th be qu 1 (upL (upL li p l1') q l') (hM (mS f true jl R O A))) := by
              refine hcls.trans ?_
              rw [← henc]
              simp only [s59_97, s59_100, s59_100n, s59_101, s59_101n, s59_102, s59_105, Option.bind_some, Option.bind_none, Option.toList_some, Option.toList_none, List.nil_append, List.cons_append, ↓reduceIte, reduceCtorEq, cl1_i, cl1_r, cl1_n, cl1_0, cl1_J, okS_0, okS_1, okS_2, okS_3, okS_4, bB_0, bB_and, z_0, z_1, z_10, bB_t, bB_f, Bool.true_eq_false, Bool.false_eq_true, gT0, gT1, gT2, gT3, gT4, gT5, gT6, gF0, gF1, gF2, gF3, gF4, gS0, gS1, gC0, gC1, iT, iF, iS, iC, sT6_0, sT6_1, sF2, sF3, sF4_0, sF4_1, sS1, sC1, iO_ hq, r7]
            have hmod2 : ∀ (F : FlS) (s c : OpS) (th be qu : Nat → Int32) (mo : Int32) (li : Nat → LiS), ∃ R' O' A', RunM 115 [.ref 61, .int (nI q), .int (nI a)] (hp sc F s c th be qu mo li (hM (mS f (true) jl R O A))) = some (some (.int (if (cmq (bgq f p).2 q [o] st).1 = true then nI p else -9)), (hp sc F s c th be qu mo li (hM (mS ((cmq (bgq f p).2 q [o] st).2) ((cmq (bgq f p).2 q [o] st).1) (jA (cmq (bgq f p).2 q [o] st).1 jl) (R') (O') (A'))))) := by
              intro F s c th be qu mo li
              obtain ⟨R2, A2, y2, m3⟩ := hmod F s c th be qu mo li
              rw [hr, jA_t] at m3
              obtain ⟨R3, A3, r8⟩ := c105q (sc := sc) (F := F) (s := s) (c := c) (th := th) (be := be) (qu := qu) (mo := mo) (li := li) (f := (bgq f p).2) (mt := true) (jl := jl) (R := R2) (A := A2) (j := O.1) hd1 hX1 hq hst1 hF hlen
              refine ⟨R3, opf O.1 (encS [o]), A3, m3.trans ?_⟩
              simp only [s115_110, s115_116, s115_116n, s115_117, s115_118, s115_121, s115_121n, s115_122, Option.bind_some, Option.bind_none, Option.toList_some, Option.toList_none, List.nil_append, List.cons_append, ↓reduceIte, reduceCtorEq, cl1_i, cl1_r, cl1_n, cl1_0, cl1_J, okS_0, okS_1, okS_2, okS_3, okS_4, bB_0, bB_and, z_0, z_1, z_10, bB_t, bB_f, Bool.true_eq_false, Bool.false_eq_true, gT0, gT1, gT2, gT3, gT4, gT5, gT6, gF0, gF1, gF2, gF3, gF4, gS0, gS1, gC0, gC1, iT, iF, iS, iC, sT6_0, sT6_1, sF2, sF3, sF4_0, sF4_1, sS1, sC1, gM0, gM1, gM2, gM3, gM4, gM5, gM6, gM7, gM8, gM9, gM10, gM11, gM12, gM13, gM14, gM15, gM16, gM17, gM18, iM, sM5, sM6, sM11, sM12, sM13, sM14, sM18, sM2_0, sM2_1, sM3_0, sM3_1, sM4_0, sM4_1, mS_0, mS_1, mS_2, mS_3, mS_4, mS_5, mS_6, mS_7, mS_8, mS_9, mS_10, mS_11, mS_12, mS_13, mS_14, mS_15, mS_16, mS_17, mS_18, decide_true, decide_false, Bool.not_true, Bool.not_false, sM16r]
              simp only [s115_123, s115_126, s115_126n, s115_127, Option.bind_some, Option.bind_none, Option.toList_some, Option.toList_none, List.nil_append, List.cons_append, ↓reduceIte, reduceCtorEq, cl1_i, cl1_r, cl1_n, cl1_0, cl1_J, okS_0, okS_1, okS_2, okS_3, okS_4, bB_0, bB_and, z_0, z_1, z_10, bB_t, bB_f, Bool.true_eq_false, Bool.false_eq_true, gT0, gT1, gT2, gT3, gT4, gT5, gT6, gF0, gF1, gF2, gF3, gF4, gS0, gS1, gC0, gC1, iT, iF, iS, iC, sT6_0, sT6_1, sF2, sF3, sF4_0, sF4_1, sS1, sC1, gM0, gM1, gM2, gM3, gM4, gM5, gM6, gM7, gM8, gM9, gM10, gM11, gM12, gM13, gM14, gM15, gM16, gM17, gM18, iM, sM5, sM6, sM11, sM12, sM13, sM14, sM18, sM2_0, sM2_1, sM3_0, sM3_1, sM4_0, sM4_1, mS_0, mS_1, mS_2, mS_3, mS_4, mS_5, mS_6, mS_7, mS_8, mS_9, mS_10, mS_11, mS_12, mS_13, mS_14, mS_15, mS_16, mS_17, mS_18, decide_true, decide_false, Bool.not_true, Bool.not_false, sM16r, c107 (show ([] : List Int32).length < 32 by decide), List.nil_append]
              simp only [s115_128, s115_131, s115_131n, s115_132, Option.bind_some, Option.bind_none, Option.toList_some, Option.toList_none, List.nil_append, List.cons_append, ↓reduceIte, reduceCtorEq, cl1_i, cl1_r, cl1_n, cl1_0, cl1_J, okS_0, okS_1, okS_2, okS_3, okS_4, bB_0, bB_and, z_0, z_1, z_10, bB_t, bB_f, Bool.true_eq_false, Bool.false_eq_true, gT0, gT1, gT2, gT3, gT4, gT5, gT6, gF0, gF1, gF2, gF3, gF4, gS0, gS1, gC0, gC1, iT, iF, iS, iC, sT6_0, sT6_1, sF2, sF3, sF4_0, sF4_1, sS1, sC1, gM0, gM1, gM2, gM3, gM4, gM5, gM6, gM7, gM8, gM9, gM10, gM11, gM12, gM13, gM14, gM15, gM16, gM17, gM18, iM, sM5, sM6, sM11, sM12, sM13, sM14, sM18, sM2_0, sM2_1, sM3_0, sM3_1, sM4_0, sM4_1, mS_0, mS_1, mS_2, mS_3, mS_4, mS_5, mS_6, mS_7, mS_8, mS_9, mS_10, mS_11, mS_12, mS_13, mS_14, mS_15, mS_16, mS_17, mS_18, decide_true, decide_false, Bool.not_true, Bool.not_false, sM16r, c107 (bs := [2]) (v := nI a) (Nat.le_of_ble_eq_true rfl), List.cons_append, List.nil_append]
              simp only [s115_134, s115_137, s115_137n, s115_138, s115_138n, s115_139, Option.bind_some, Option.bind_none, Option.toList_some, Option.toList_none, List.nil_append, List.cons_append, ↓reduceIte, reduceCtorEq, cl1_i, cl1_r, cl1_n, cl1_0, cl1_J, okS_0, okS_1, okS_2, okS_3, okS_4, bB_0, bB_and, z_0, z_1, z_10, bB_t, bB_f, Bool.true_eq_false, Bool.false_eq_true, gT0, gT1, gT2, gT3, gT4, gT5, gT6, gF0, gF1, gF2, gF3, gF4, gS0, gS1, gC0, gC1, iT, iF, iS, iC, sT6_0, sT6_1, sF2, sF3, sF4_0, sF4_1, sS1, sC1, gM0, gM1, gM2, gM3, gM4, gM5, gM6, gM7, gM8, gM9, gM10, gM11, gM12, gM13, gM14, gM15, gM16, gM17, gM18, iM, sM5, sM6, sM11, sM12, sM13, sM14, sM18, sM2_0, sM2_1, sM3_0, sM3_1, sM4_0, sM4_1, mS_0, mS_1, mS_2, mS_3, mS_4, mS_5, mS_6, mS_7, mS_8, mS_9, mS_10, mS_11, mS_12, mS_13, mS_14, mS_15, mS_16, mS_17, mS_18, decide_true, decide_false, Bool.not_true, Bool.not_false, sM16r, c107 (bs := [2, nI a]) (v := nI p) (Nat.le_of_ble_eq_true rfl), List.cons_append, List.nil_append]
              rw [← henc]
              simp only [s115_140, s115_143, Option.bind_some, Option.bind_none, Option.toList_some, Option.toList_none, List.nil_append, List.cons_append, ↓reduceIte, reduceCtorEq, cl1_i, cl1_r, cl1_n, cl1_0, cl1_J, okS_0, okS_1, okS_2, okS_3, okS_4, bB_0, bB_and, z_0, z_1, z_10, bB_t, bB_f, Bool.true_eq_false, Bool.false_eq_true, gT0, gT1, gT2, gT3, gT4, gT5, gT6, gF0, gF1, gF2, gF3, gF4, gS0, gS1, gC0, gC1, iT, iF, iS, iC, sT6_0, sT6_1, sF2, sF3, sF4_0, sF4_1, sS1, sC1, gM0, gM1, gM2, gM3, gM4, gM5, gM6, gM7, gM8, gM9, gM10, gM11, gM12, gM13, gM14, gM15, gM16, gM17, gM18, iM, sM5, sM6, sM11, sM12, sM13, sM14, sM18, sM2_0, sM2_1, sM3_0, sM3_1, sM4_0, sM4_1, mS_0, mS_1, mS_2, mS_3, mS_4, mS_5, mS_6, mS_7, mS_8, mS_9, mS_10, mS_11, mS_12, mS_13, mS_14, mS_15, mS_16, mS_17, mS_18, decide_true, decide_false, Bool.not_true, Bool.not_false, sM16r, r8]
              simp only [s115_145, s115_148, Option.bind_some, Option.bind_none, Option.toList_some, Option.toList_none, List.nil_append, List.cons_append, ↓reduceIte, reduceCtorEq, cl1_i, cl1_r, cl1_n, cl1_0, cl1_J, okS_0, okS_1, okS_2, okS_3, okS_4, bB_0, bB_and, z_0, z_1, z_10, bB_t, bB_f, Bool.true_eq_false, Bool.false_eq_true, gT0, gT1, gT2, gT3, gT4, gT5, gT6, gF0, gF1, gF2, gF3, gF4, gS0, gS1, gC0, gC1, iT, iF, iS, iC, sT6_0, sT6_1, sF2, sF3, sF4_0, sF4_1, sS1, sC1, gM0, gM1, gM2, gM3, gM4, gM5, gM6, gM7, gM8, gM9, gM10, gM11, gM12, gM13, gM14, gM15, gM16, gM17, gM18, iM, sM5, sM6, sM11, sM12, sM13, sM14, sM18, sM2_0, sM2_1, sM3_0, sM3_1, sM4_0, sM4_1, mS_0, mS_1, mS_2, mS_3, mS_4, mS_5, mS_6, mS_7, mS_8, mS_9, mS_10, mS_11, mS_12, mS_13, mS_14, mS_15, mS_16, mS_17, mS_18, decide_true, decide_false, Bool.not_true, Bool.not_false, sM16r, c111, Bool.and_true]
            cases hr2 : (cmq (bgq f p).2 q [o] st).1 with
            | true =>
              have hX' := x1 hr2
              have hA' : LiA (upO (upO Lo p (some nilL)) q (some (apS st [o]))) (upL (upL li p l1') q l') := hA1.up r9
              obtain ⟨th', qu', r10, r11⟩ := c73t (sc := sc) (F := fB (cmq (bgq f p).2 q [o] st).2) (s := s') (c := opf c.1 (encS [o])) (th := th) (be := be) (qu := qu) (mo := 1) (mm := hM (mS f true jl R O A)) (v := nI p) ⟨_, hX'⟩ hA'
              obtain ⟨R', O', A', m9⟩ := hmod2 (fB (cmq (bgq f p).2 q [o] st).2) s' (opf c.1 (encS [o])) th' be qu' 1 (upL (upL li p l1') q l')
              rw [hr2] at m9 hcls2
              refine ⟨some (.int (nI p)), _, (hp sc (fB ((cmq (bgq f p).2 q [o] st).2)) (s') (opf c.1 (encS [o])) (th') be (qu') (bB (true)) (upL (upL li p l1') q l') (hM (mS ((cmq (bgq f p).2 q [o] st).2) (true) (jA true jl) (R') (O') (A')))), hcls2.trans ?_, m9, mkI hX' f1 (fun _ => ⟨dk4 hr2, f2, f3, hA', r11⟩)⟩
              simp only [s59_108, s59_111, s59_112, s59_115, s59_116, s59_118, Option.bind_some, Option.bind_none, Option.toList_some, Option.toList_none, List.nil_append, List.cons_append, ↓reduceIte, reduceCtorEq, cl1_i, cl1_r, cl1_n, cl1_0, cl1_J, okS_0, okS_1, okS_2, okS_3, okS_4, bB_0, bB_and, z_0, z_1, z_10, bB_t, bB_f, Bool.true_eq_false, Bool.false_eq_true, gT0, gT1, gT2, gT3, gT4, gT5, gT6, gF0, gF1, gF2, gF3, gF4, gS0, gS1, gC0, gC1, iT, iF, iS, iC, sT6_0, sT6_1, sF2, sF3, sF4_0, sF4_1, sS1, sC1, r10]
              simp only [s59_121, Option.bind_some, Option.bind_none, Option.toList_some, Option.toList_none, List.nil_append, List.cons_append, ↓reduceIte, reduceCtorEq, cl1_i, cl1_r, cl1_n, cl1_0, cl1_J, okS_0, okS_1, okS_2, okS_3, okS_4, bB_0, bB_and, z_0, z_1, z_10, bB_t, bB_f, Bool.true_eq_false, Bool.false_eq_true, gT0, gT1, gT2, gT3, gT4, gT5, gT6, gF0, gF1, gF2, gF3, gF4, gS0, gS1, gC0, gC1, iT, iF, iS, iC, sT6_0, sT6_1, sF2, sF3, sF4_0, sF4_1, sS1, sC1]
            | false =>
              obtain ⟨R', O', A', m9⟩ := hmod2 (fB (cmq (bgq f p).2 q [o] st).2) s' (opf c.1 (encS [o])) th be qu 0 (upL (upL li p l1') q l')
              rw [hr2] at m9 hcls2
              refine ⟨some (.int (-9)), _, (hp sc (fB ((cmq (bgq f p).2 q [o] st).2)) (s') (opf c.1 (encS [o])) th be qu (bB (false)) (upL (upL li p l1') q l') (hM (mS ((cmq (bgq f p).2 q [o] st).2) (false) (jA false jl) (R') (O') (A')))), hcls2.trans ?_, m9, mkI (x2 hr2) hS1 (fun h => by cases h)⟩
              simp only [s59_108, s59_115, s59_116, s59_118, Option.bind_some, Option.bind_none, Option.toList_some, Option.toList_none, List.nil_append, List.cons_append, ↓reduceIte, reduceCtorEq, cl1_i, cl1_r, cl1_n, cl1_0, cl1_J, okS_0, okS_1, okS_2, okS_3, okS_4, bB_0, bB_and, z_0, z_1, z_10, bB_t, bB_f, Bool.true_eq_false, Bool.false_eq_true, gT0, gT1, gT2, gT3, gT4, gT5, gT6, gF0, gF1, gF2, gF3, gF4, gS0, gS1, gC0, gC1, iT, iF, iS, iC, sT6_0, sT6_1, sF2, sF3, sF4_0, sF4_1, sS1, sC1, c73f]
              simp only [s59_121, Option.bind_some, Option.bind_none, Option.toList_some, Option.toList_none, List.nil_append, List.cons_append, ↓reduceIte, reduceCtorEq, cl1_i, cl1_r, cl1_n, cl1_0, cl1_J, okS_0, okS_1, okS_2, okS_3, okS_4, bB_0, bB_and, z_0, z_1, z_10, bB_t, bB_f, Bool.true_eq_false, Bool.false_eq_true, gT0, gT1, gT2, gT3, gT4, gT5, gT6, gF0, gF1, gF2, gF3, gF4, gS0, gS1, gC0, gC1, iT, iF, iS, iC, sT6_0, sT6_1, sF2, sF3, sF4_0, sF4_1, sS1, sC1]
      · rw [if_neg hV] at e1
        obtain ⟨R2, y2, m3⟩ := mod (fB f) s c th be qu 1 li
        rw [if_neg hV] at m3
        exact boS hX hS hU e1 ⟨R2, O, m3⟩
end BM
