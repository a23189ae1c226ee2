/-! ===== remove ===== -/
def rmV (Lo : LO) (es : List En) (x : Int32) : Int32 := match fiE es x with
  | none => -1
  | some k => match es[k]? with
    | none => 0
    | some e => if e.2.1 = 2 ∧ (lsO Lo e.2.2.1).1 ≠ [] then -5 else 0
theorem rm_name {Lo : LO} {es : List En} {x : Int32} (hok : ∀ e ∈ es, OkE e) (h : rmV Lo es x = 0) : ∃ a k e, 1 ≤ a ∧ a ≤ 99 ∧ x = nI a ∧ fiE es x = some k ∧ es[k]? = some e ∧ ¬ (e.2.1 = 2 ∧ (lsO Lo e.2.2.1).1 ≠ []) := by
  unfold rmV at h
  cases hf : fiE es x with
  | none => rw [hf] at h; exact absurd h (show ¬ (-1 : Int32) = 0 by decide)
  | some k =>
    obtain ⟨e, he, hx⟩ := fiE_get hf
    have hO := hok e (List.mem_of_getElem? he)
    rw [hf] at h
    dsimp only at h
    rw [he] at h
    dsimp only at h
    refine ⟨e.1, k, e, hO.1, hO.2.1, hx.symm, rfl, he, fun h9 => ?_⟩
    rw [if_pos h9] at h
    exact absurd h (by decide)
section RMC
variable {sc : AC} {f : FB} {s c : OpS} {th be qu : Nat → Int32} {mo : Int32} {li : Nat → LiS} {mm : AH} {Lo : LO} {mt : Bool} {d x : Int32} {q : Nat}
theorem n61 (hN : mt = true → ThS Lo th ∧ tIn Lo d = false) : RunM 61 [.ref 1, .int d, .int x] (hp sc (fB f) s c th be qu (bB mt) li mm) = some (some (.int (refu f mt)), (hp sc (fB f) s c th be qu (bB mt) li mm)) := by
  simp only [e61, s61_0, s61_0n, s61_1, s61_2, s61_5, s61_5n, s61_6, s61_6n, s61_7, s61_7n, s61_10, s61_10n, s61_11, Option.bind_some, Option.bind_none, Option.toList_some, Option.toList_none, List.nil_append, List.cons_append, ↓reduceIte, reduceCtorEq, cl1_i, cl1_r, cl1_n, cl1_0, cl1_J, okS_0, okS_1, okS_2, okS_3, okS_4, bB_0, bB_and, z_0, z_1, z_10, bB_t, bB_f, Bool.true_eq_false, Bool.false_eq_true, gT0, gT1, gT2, gT3, gT4, gT5, gT6, gF0, gF1, gF2, gF3, gF4, gS0, gS1, gC0, gC1, iT, iF, iS, iC, sT6_0, sT6_1, sF2, sF3, sF4_0, sF4_1, sS1, sC1, c78N hN, c72r]
  simp only [s61_14, Option.bind_some, Option.bind_none, Option.toList_some, Option.toList_none, List.nil_append, List.cons_append, ↓reduceIte, reduceCtorEq, cl1_i, cl1_r, cl1_n, cl1_0, cl1_J, okS_0, okS_1, okS_2, okS_3, okS_4, bB_0, bB_and, z_0, z_1, z_10, bB_t, bB_f, Bool.true_eq_false, Bool.false_eq_true, gT0, gT1, gT2, gT3, gT4, gT5, gT6, gF0, gF1, gF2, gF3, gF4, gS0, gS1, gC0, gC1, iT, iF, iS, iC, sT6_0, sT6_1, sF2, sF3, sF4_0, sF4_1, sS1, sC1]
theorem s61 {F : FlS} (hT : ThS Lo th) (hA : LiA Lo li) (hq : q < 8) (hb : (froS (lsO Lo) 0).testBit q = true) : ∃ y z, RunM 61 [.ref 1, .int (nI q), .int x] (hp sc (F) s c th be qu (1) li mm) = if rmV Lo (lsO Lo q).1 x = 0 then Run 61 67 [some (.ref 1), some (.int (nI q)), some (.int x), some (.ref (13 + 6 * q)), some (.int y), z] [] (hp sc (F) s c th be qu (1) li mm) else some (some (.int (rmV Lo (lsO Lo q).1 x)), (hp sc (F) s c th be qu (1) li mm)) := by
  have hL := hA q hq
  have start : RunM 61 [.ref 1, .int (nI q), .int x] (hp sc (F) s c th be qu (1) li mm) = Run 61 23 [some (.ref 1), some (.int (nI q)), some (.int x), some (.ref (13 + 6 * q)), none, none] [.int (oI (fiE (lsO Lo q).1 x))] (hp sc (F) s c th be qu (1) li mm) := by
    simp only [e61, s61_0, s61_0n, s61_1, s61_2, s61_5, s61_5n, s61_6, s61_6n, s61_7, s61_7n, Option.bind_some, Option.bind_none, Option.toList_some, Option.toList_none, List.nil_append, List.cons_append, ↓reduceIte, reduceCtorEq, cl1_i, cl1_r, cl1_n, cl1_0, cl1_J, okS_0, okS_1, okS_2, okS_3, okS_4, bB_0, bB_and, z_0, z_1, z_10, bB_t, bB_f, Bool.true_eq_false, Bool.false_eq_true, gT0, gT1, gT2, gT3, gT4, gT5, gT6, gF0, gF1, gF2, gF3, gF4, gS0, gS1, gC0, gC1, iT, iF, iS, iC, sT6_0, sT6_1, sF2, sF3, sF4_0, sF4_1, sS1, sC1, c78y hT hq hb]
    simp only [s61_15, s61_15n, s61_16, s61_19, s61_20, Option.bind_some, Option.bind_none, Option.toList_some, Option.toList_none, List.nil_append, List.cons_append, ↓reduceIte, reduceCtorEq, cl1_i, cl1_r, cl1_n, cl1_0, cl1_J, okS_0, okS_1, okS_2, okS_3, okS_4, bB_0, bB_and, z_0, z_1, z_10, bB_t, bB_f, Bool.true_eq_false, Bool.false_eq_true, gT0, gT1, gT2, gT3, gT4, gT5, gT6, gF0, gF1, gF2, gF3, gF4, gS0, gS1, gC0, gC1, iT, iF, iS, iC, sT6_0, sT6_1, sF2, sF3, sF4_0, sF4_1, sS1, sC1, gO0 hq, gO1 hq, gO2 hq, gO3 hq, gL0 hq, gL1 hq, gL2 hq, gL3 hq, gL4 hq, gL5 hq, gL6 hq, iO hq, iL hq, sL4 hq, sL5 hq, sL6 hq, c28 hq hL]
  cases hf : fiE (lsO Lo q).1 x with
  | none =>
    refine ⟨0, none, ?_⟩
    have hv : rmV Lo (lsO Lo q).1 x = -1 := by unfold rmV; rw [hf]
    rw [start, hf, hv, if_neg (by decide)]
    simp only [s61_23, s61_25, s61_27, s61_28, s61_31, s61_32, Option.bind_some, Option.bind_none, Option.toList_some, Option.toList_none, List.nil_append, List.cons_append, ↓reduceIte, reduceCtorEq, cl1_i, cl1_r, cl1_n, cl1_0, cl1_J, okS_0, okS_1, okS_2, okS_3, okS_4, bB_0, bB_and, z_0, z_1, z_10, bB_t, bB_f, Bool.true_eq_false, Bool.false_eq_true, gT0, gT1, gT2, gT3, gT4, gT5, gT6, gF0, gF1, gF2, gF3, gF4, gS0, gS1, gC0, gC1, iT, iF, iS, iC, sT6_0, sT6_1, sF2, sF3, sF4_0, sF4_1, sS1, sC1, oI_n, m1m1]
  | some k =>
    obtain ⟨e, he, -⟩ := fiE_get hf
    have hk : k < 2 ^ 31 := by have := (fiE_lt hf).1; have := hL.1; omega
    have hea : eAt (lsO Lo q).1 (nI k) = some e := by rw [eAt_nI hL.1 (fiE_lt hf).1, he]
    have hO := (hL.2.2.1 k e he).2
    have mid : RunM 61 [.ref 1, .int (nI q), .int x] (hp sc (F) s c th be qu (1) li mm) = Run 61 43 [some (.ref 1), some (.int (nI q)), some (.int x), some (.ref (13 + 6 * q)), some (.int (nI k)), none] [.int (enPr e), .ref 1] (hp sc (F) s c th be qu (1) li mm) := by
      rw [start, hf]
      simp only [s61_23, s61_25, s61_27, s61_28, s61_33, s61_33n, s61_34, s61_34n, s61_35, s61_38, s61_40, Option.bind_some, Option.bind_none, Option.toList_some, Option.toList_none, List.nil_append, List.cons_append, ↓reduceIte, reduceCtorEq, cl1_i, cl1_r, cl1_n, cl1_0, cl1_J, okS_0, okS_1, okS_2, okS_3, okS_4, bB_0, bB_and, z_0, z_1, z_10, bB_t, bB_f, Bool.true_eq_false, Bool.false_eq_true, gT0, gT1, gT2, gT3, gT4, gT5, gT6, gF0, gF1, gF2, gF3, gF4, gS0, gS1, gC0, gC1, iT, iF, iS, iC, sT6_0, sT6_1, sF2, sF3, sF4_0, sF4_1, sS1, sC1, gO0 hq, gO1 hq, gO2 hq, gO3 hq, gL0 hq, gL1 hq, gL2 hq, gL3 hq, gL4 hq, gL5 hq, gL6 hq, iO hq, iL hq, sL4 hq, sL5 hq, sL6 hq, oI_s, m1_nI' hk, c32 hq hL, hea, Option.elim]
    rcases hO.2.2 with ⟨g, -⟩ | ⟨g, hp8, -⟩
    · refine ⟨nI k, some .null, ?_⟩
      have g2 : ¬ (e.2.1 = 2 ∧ (lsO Lo e.2.2.1).1 ≠ []) := fun h => by omega
      have hv : rmV Lo (lsO Lo q).1 x = 0 := by unfold rmV; rw [hf]; dsimp only; rw [he]; exact if_neg g2
      have hpr : enPr e = -1 := by unfold enPr; rw [if_neg (by omega)]
      rw [mid, hv, if_pos rfl, hpr]
      simp only [s61_43, s61_46, s61_46n, s61_48, s61_48n, s61_50, s61_50n, Option.bind_some, Option.bind_none, Option.toList_some, Option.toList_none, List.nil_append, List.cons_append, ↓reduceIte, reduceCtorEq, cl1_i, cl1_r, cl1_n, cl1_0, cl1_J, okS_0, okS_1, okS_2, okS_3, okS_4, bB_0, bB_and, z_0, z_1, z_10, bB_t, bB_f, Bool.true_eq_false, Bool.false_eq_true, gT0, gT1, gT2, gT3, gT4, gT5, gT6, gF0, gF1, gF2, gF3, gF4, gS0, gS1, gC0, gC1, iT, iF, iS, iC, sT6_0, sT6_1, sF2, sF3, sF4_0, sF4_1, sS1, sC1, c76n (show inB (-1) 8 = false by decide)]
    · refine ⟨nI k, some (.ref (13 + 6 * e.2.2.1)), ?_⟩
      have hpr : enPr e = nI e.2.2.1 := by unfold enPr; rw [if_pos g]
      rw [mid, hpr]
      have mid2 : Run 61 43 [some (.ref 1), some (.int (nI q)), some (.int x), some (.ref (13 + 6 * q)), some (.int (nI k)), none] [.int (nI e.2.2.1), .ref 1] (hp sc (F) s c th be qu (1) li mm) = Run 61 61 [some (.ref 1), some (.int (nI q)), some (.int x), some (.ref (13 + 6 * q)), some (.int (nI k)), some (.ref (13 + 6 * e.2.2.1))] [.int (bB (decide ((lsO Lo e.2.2.1).1 = [])))] (hp sc (F) s c th be qu (1) li mm) := by
        simp only [s61_43, s61_46, s61_46n, s61_48, s61_48n, s61_50, s61_50n, Option.bind_some, Option.bind_none, Option.toList_some, Option.toList_none, List.nil_append, List.cons_append, ↓reduceIte, reduceCtorEq, cl1_i, cl1_r, cl1_n, cl1_0, cl1_J, okS_0, okS_1, okS_2, okS_3, okS_4, bB_0, bB_and, z_0, z_1, z_10, bB_t, bB_f, Bool.true_eq_false, Bool.false_eq_true, gT0, gT1, gT2, gT3, gT4, gT5, gT6, gF0, gF1, gF2, gF3, gF4, gS0, gS1, gC0, gC1, iT, iF, iS, iC, sT6_0, sT6_1, sF2, sF3, sF4_0, sF4_1, sS1, sC1, c76 hp8]
        simp only [s61_53, s61_53n, s61_55, s61_58, Option.bind_some, Option.bind_none, Option.toList_some, Option.toList_none, List.nil_append, List.cons_append, ↓reduceIte, reduceCtorEq, cl1_i, cl1_r, cl1_n, cl1_0, cl1_J, okS_0, okS_1, okS_2, okS_3, okS_4, bB_0, bB_and, z_0, z_1, z_10, bB_t, bB_f, Bool.true_eq_false, Bool.false_eq_true, gT0, gT1, gT2, gT3, gT4, gT5, gT6, gF0, gF1, gF2, gF3, gF4, gS0, gS1, gC0, gC1, iT, iF, iS, iC, sT6_0, sT6_1, sF2, sF3, sF4_0, sF4_1, sS1, sC1, gO3 hp8, iL hp8, c25 hp8 (hA _ hp8)]
      rw [mid2]
      by_cases h9 : (lsO Lo e.2.2.1).1 = []
      · have hv : rmV Lo (lsO Lo q).1 x = 0 := by unfold rmV; rw [hf]; dsimp only; rw [he]; exact if_neg (fun h => h.2 h9)
        rw [hv, if_pos rfl, h9]
        simp only [s61_61, Option.bind_some, Option.bind_none, Option.toList_some, Option.toList_none, List.nil_append, List.cons_append, ↓reduceIte, reduceCtorEq, cl1_i, cl1_r, cl1_n, cl1_0, cl1_J, okS_0, okS_1, okS_2, okS_3, okS_4, bB_0, bB_and, z_0, z_1, z_10, bB_t, bB_f, Bool.true_eq_false, Bool.false_eq_true, gT0, gT1, gT2, gT3, gT4, gT5, gT6, gF0, gF1, gF2, gF3, gF4, gS0, gS1, gC0, gC1, iT, iF, iS, iC, sT6_0, sT6_1, sF2, sF3, sF4_0, sF4_1, sS1, sC1, decide_true]
      · have hv : rmV Lo (lsO Lo q).1 x = -5 := by unfold rmV; rw [hf]; dsimp only; rw [he]; exact if_pos ⟨g, h9⟩
        rw [hv, if_neg (by decide), decide_eq_false h9]
        simp only [s61_61, s61_64, s61_66, Option.bind_some, Option.bind_none, Option.toList_some, Option.toList_none, List.nil_append, List.cons_append, ↓reduceIte, reduceCtorEq, cl1_i, cl1_r, cl1_n, cl1_0, cl1_J, okS_0, okS_1, okS_2, okS_3, okS_4, bB_0, bB_and, z_0, z_1, z_10, bB_t, bB_f, Bool.true_eq_false, Bool.false_eq_true, gT0, gT1, gT2, gT3, gT4, gT5, gT6, gF0, gF1, gF2, gF3, gF4, gS0, gS1, gC0, gC1, iT, iF, iS, iC, sT6_0, sT6_1, sF2, sF3, sF4_0, sF4_1, sS1, sC1]
end RMC
section RMM
variable {sc : AC} {F : FlS} {s c : OpS} {th be qu : Nat → Int32} {mo : Int32} {li : Nat → LiS} {f : FB} {mt : Bool} {jl : Int32} {R : RgS} {O A : OpS} {Lo : LO} {d x : Int32} {q : Nat}
theorem u117 (h : mt = false) : RunM 117 [.ref 61, .int d, .int x] (hp sc F s c th be qu mo li (hM (mS f mt jl R O A))) = some (some (.int (rdy f mt)), (hp sc F s c th be qu mo li (hM (mS f mt jl R O A)))) := by
  simp only [e117, s117_0, s117_0n, s117_1, s117_4, s117_7, s117_7n, s117_8, Option.bind_some, Option.bind_none, Option.toList_some, Option.toList_none, List.nil_append, List.cons_append, ↓reduceIte, reduceCtorEq, cl1_i, cl1_r, cl1_n, cl1_0, cl1_J, okS_0, okS_1, okS_2, okS_3, okS_4, bB_0, bB_and, z_0, z_1, z_10, bB_t, bB_f, Bool.true_eq_false, Bool.false_eq_true, gT0, gT1, gT2, gT3, gT4, gT5, gT6, gF0, gF1, gF2, gF3, gF4, gS0, gS1, gC0, gC1, iT, iF, iS, iC, sT6_0, sT6_1, sF2, sF3, sF4_0, sF4_1, sS1, sC1, gM0, gM1, gM2, gM3, gM4, gM5, gM6, gM7, gM8, gM9, gM10, gM11, gM12, gM13, gM14, gM15, gM16, gM17, gM18, iM, sM5, sM6, sM11, sM12, sM13, sM14, sM16, sM18, sM2_0, sM2_1, sM3_0, sM3_1, sM4_0, sM4_1, mS_0, mS_1, mS_2, mS_3, mS_4, mS_5, mS_6, mS_7, mS_8, mS_9, mS_10, mS_11, mS_12, mS_13, mS_14, mS_15, mS_16, mS_17, mS_18, decide_true, decide_false, Bool.not_true, Bool.not_false, c110r, rdy_neg h]
  simp only [s117_11, Option.bind_some, Option.bind_none, Option.toList_some, Option.toList_none, List.nil_append, List.cons_append, ↓reduceIte, reduceCtorEq, cl1_i, cl1_r, cl1_n, cl1_0, cl1_J, okS_0, okS_1, okS_2, okS_3, okS_4, bB_0, bB_and, z_0, z_1, z_10, bB_t, bB_f, Bool.true_eq_false, Bool.false_eq_true, gT0, gT1, gT2, gT3, gT4, gT5, gT6, gF0, gF1, gF2, gF3, gF4, gS0, gS1, gC0, gC1, iT, iF, iS, iC, sT6_0, sT6_1, sF2, sF3, sF4_0, sF4_1, sS1, sC1]
theorem w117 (hd : f.2.2.2.2 = false) (hX : IX f Lo) (ht : tIn Lo d = false) : ∃ R', RunM 117 [.ref 61, .int d, .int x] (hp sc F s c th be qu mo li (hM (mS f (true) jl R O A))) = some (some (.int (-1)), (hp sc F s c th be qu mo li (hM (mS f (true) jl (R') O A)))) := by
  obtain ⟨R', r1⟩ := c109q (sc := sc) (F := F) (s := s) (c := c) (th := th) (be := be) (qu := qu) (mo := mo) (li := li) (f := f) (mt := true) (jl := jl) (R := R) (O := O) (A := A) hX (d := d)
  rw [ht] at r1
  refine ⟨R', ?_⟩
  simp only [e117, s117_0, s117_0n, s117_1, s117_4, s117_7, s117_7n, s117_8, s117_11, s117_12, s117_12n, s117_13, Option.bind_some, Option.bind_none, Option.toList_some, Option.toList_none, List.nil_append, List.cons_append, ↓reduceIte, reduceCtorEq, cl1_i, cl1_r, cl1_n, cl1_0, cl1_J, okS_0, okS_1, okS_2, okS_3, okS_4, bB_0, bB_and, z_0, z_1, z_10, bB_t, bB_f, Bool.true_eq_false, Bool.false_eq_true, gT0, gT1, gT2, gT3, gT4, gT5, gT6, gF0, gF1, gF2, gF3, gF4, gS0, gS1, gC0, gC1, iT, iF, iS, iC, sT6_0, sT6_1, sF2, sF3, sF4_0, sF4_1, sS1, sC1, gM0, gM1, gM2, gM3, gM4, gM5, gM6, gM7, gM8, gM9, gM10, gM11, gM12, gM13, gM14, gM15, gM16, gM17, gM18, iM, sM5, sM6, sM11, sM12, sM13, sM14, sM16, sM18, sM2_0, sM2_1, sM3_0, sM3_1, sM4_0, sM4_1, mS_0, mS_1, mS_2, mS_3, mS_4, mS_5, mS_6, mS_7, mS_8, mS_9, mS_10, mS_11, mS_12, mS_13, mS_14, mS_15, mS_16, mS_17, mS_18, decide_true, decide_false, Bool.not_true, Bool.not_false, c110r, rdy_t hd, z00]
  simp only [s117_14, Option.bind_some, Option.bind_none, Option.toList_some, Option.toList_none, List.nil_append, List.cons_append, ↓reduceIte, reduceCtorEq, cl1_i, cl1_r, cl1_n, cl1_0, cl1_J, okS_0, okS_1, okS_2, okS_3, okS_4, bB_0, bB_and, z_0, z_1, z_10, bB_t, bB_f, Bool.true_eq_false, Bool.false_eq_true, gT0, gT1, gT2, gT3, gT4, gT5, gT6, gF0, gF1, gF2, gF3, gF4, gS0, gS1, gC0, gC1, iT, iF, iS, iC, sT6_0, sT6_1, sF2, sF3, sF4_0, sF4_1, sS1, sC1, gM0, gM1, gM2, gM3, gM4, gM5, gM6, gM7, gM8, gM9, gM10, gM11, gM12, gM13, gM14, gM15, gM16, gM17, gM18, iM, sM5, sM6, sM11, sM12, sM13, sM14, sM16, sM18, sM2_0, sM2_1, sM3_0, sM3_1, sM4_0, sM4_1, mS_0, mS_1, mS_2, mS_3, mS_4, mS_5, mS_6, mS_7, mS_8, mS_9, mS_10, mS_11, mS_12, mS_13, mS_14, mS_15, mS_16, mS_17, mS_18, decide_true, decide_false, Bool.not_true, Bool.not_false, r1]
  simp only [s117_17, s117_20, s117_21, Option.bind_some, Option.bind_none, Option.toList_some, Option.toList_none, List.nil_append, List.cons_append, ↓reduceIte, reduceCtorEq, cl1_i, cl1_r, cl1_n, cl1_0, cl1_J, okS_0, okS_1, okS_2, okS_3, okS_4, bB_0, bB_and, z_0, z_1, z_10, bB_t, bB_f, Bool.true_eq_false, Bool.false_eq_true, gT0, gT1, gT2, gT3, gT4, gT5, gT6, gF0, gF1, gF2, gF3, gF4, gS0, gS1, gC0, gC1, iT, iF, iS, iC, sT6_0, sT6_1, sF2, sF3, sF4_0, sF4_1, sS1, sC1]
theorem s117 (hd : f.2.2.2.2 = false) (hX : IX f Lo) (hq : q < 8) (hb : (froS (lsO Lo) 0).testBit q = true) : ∃ R' y z, RunM 117 [.ref 61, .int (nI q), .int x] (hp sc F s c th be qu mo li (hM (mS f (true) jl R O A))) = if rmV Lo (lsO Lo q).1 x = 0 then Run 117 75 [some (.ref 61), some (.int (nI q)), some (.int x), some (.int y), some (.int z)] [] (hp sc F s c th be qu mo li (hM (mS f (true) jl (R') O A))) else some (some (.int (rmV Lo (lsO Lo q).1 x)), (hp sc F s c th be qu mo li (hM (mS f (true) jl (R') O A)))) := by
  obtain ⟨R1, r1⟩ := c109q (sc := sc) (F := F) (s := s) (c := c) (th := th) (be := be) (qu := qu) (mo := mo) (li := li) (f := f) (mt := true) (jl := jl) (R := R) (O := O) (A := A) hX (d := nI q)
  rw [tIn_nI hq, hb] at r1
  obtain ⟨R2, r2, r3⟩ := c101q (sc := sc) (F := F) (s := s) (c := c) (th := th) (be := be) (qu := qu) (mo := mo) (li := li) (f := f) (mt := true) (jl := jl) (R := R1) (O := O) (A := A) hX hq
  have h4 := r3.1
  have start : RunM 117 [.ref 61, .int (nI q), .int x] (hp sc F s c th be qu mo li (hM (mS f (true) jl R O A))) = Run 117 33 [some (.ref 61), some (.int (nI q)), some (.int x), some (.int (oI (act f q))), none] [.int (oI (fiE (lsO Lo q).1 x))] (hp sc F s c th be qu mo li (hM (mS f (true) jl (R2) O A))) := by
    simp only [e117, s117_0, s117_0n, s117_1, s117_4, s117_7, s117_7n, s117_8, s117_11, s117_12, s117_12n, s117_13, Option.bind_some, Option.bind_none, Option.toList_some, Option.toList_none, List.nil_append, List.cons_append, ↓reduceIte, reduceCtorEq, cl1_i, cl1_r, cl1_n, cl1_0, cl1_J, okS_0, okS_1, okS_2, okS_3, okS_4, bB_0, bB_and, z_0, z_1, z_10, bB_t, bB_f, Bool.true_eq_false, Bool.false_eq_true, gT0, gT1, gT2, gT3, gT4, gT5, gT6, gF0, gF1, gF2, gF3, gF4, gS0, gS1, gC0, gC1, iT, iF, iS, iC, sT6_0, sT6_1, sF2, sF3, sF4_0, sF4_1, sS1, sC1, gM0, gM1, gM2, gM3, gM4, gM5, gM6, gM7, gM8, gM9, gM10, gM11, gM12, gM13, gM14, gM15, gM16, gM17, gM18, iM, sM5, sM6, sM11, sM12, sM13, sM14, sM16, sM18, sM2_0, sM2_1, sM3_0, sM3_1, sM4_0, sM4_1, mS_0, mS_1, mS_2, mS_3, mS_4, mS_5, mS_6, mS_7, mS_8, mS_9, mS_10, mS_11, mS_12, mS_13, mS_14, mS_15, mS_16, mS_17, mS_18, decide_true, decide_false, Bool.not_true, Bool.not_false, c110r, rdy_t hd, z00]
    simp only [s117_14, s117_17, s117_20, s117_21, s117_22, s117_22n, s117_23, Option.bind_some, Option.bind_none, Option.toList_some, Option.toList_none, List.nil_append, List.cons_append, ↓reduceIte, reduceCtorEq, cl1_i, cl1_r, cl1_n, cl1_0, cl1_J, okS_0, okS_1, okS_2, okS_3, okS_4, bB_0, bB_and, z_0, z_1, z_10, bB_t, bB_f, Bool.true_eq_false, Bool.false_eq_true, gT0, gT1, gT2, gT3, gT4, gT5, gT6, gF0, gF1, gF2, gF3, gF4, gS0, gS1, gC0, gC1, iT, iF, iS, iC, sT6_0, sT6_1, sF2, sF3, sF4_0, sF4_1, sS1, sC1, gM0, gM1, gM2, gM3, gM4, gM5, gM6, gM7, gM8, gM9, gM10, gM11, gM12, gM13, gM14, gM15, gM16, gM17, gM18, iM, sM5, sM6, sM11, sM12, sM13, sM14, sM16, sM18, sM2_0, sM2_1, sM3_0, sM3_1, sM4_0, sM4_1, mS_0, mS_1, mS_2, mS_3, mS_4, mS_5, mS_6, mS_7, mS_8, mS_9, mS_10, mS_11, mS_12, mS_13, mS_14, mS_15, mS_16, mS_17, mS_18, decide_true, decide_false, Bool.not_true, Bool.not_false, r1]
    simp only [s117_24, s117_27, s117_28, s117_28n, s117_29, Option.bind_some, Option.bind_none, Option.toList_some, Option.toList_none, List.nil_append, List.cons_append, ↓reduceIte, reduceCtorEq, cl1_i, cl1_r, cl1_n, cl1_0, cl1_J, okS_0, okS_1, okS_2, okS_3, okS_4, bB_0, bB_and, z_0, z_1, z_10, bB_t, bB_f, Bool.true_eq_false, Bool.false_eq_true, gT0, gT1, gT2, gT3, gT4, gT5, gT6, gF0, gF1, gF2, gF3, gF4, gS0, gS1, gC0, gC1, iT, iF, iS, iC, sT6_0, sT6_1, sF2, sF3, sF4_0, sF4_1, sS1, sC1, gM0, gM1, gM2, gM3, gM4, gM5, gM6, gM7, gM8, gM9, gM10, gM11, gM12, gM13, gM14, gM15, gM16, gM17, gM18, iM, sM5, sM6, sM11, sM12, sM13, sM14, sM16, sM18, sM2_0, sM2_1, sM3_0, sM3_1, sM4_0, sM4_1, mS_0, mS_1, mS_2, mS_3, mS_4, mS_5, mS_6, mS_7, mS_8, mS_9, mS_10, mS_11, mS_12, mS_13, mS_14, mS_15, mS_16, mS_17, mS_18, decide_true, decide_false, Bool.not_true, Bool.not_false, r2]
    simp only [s117_30, Option.bind_some, Option.bind_none, Option.toList_some, Option.toList_none, List.nil_append, List.cons_append, ↓reduceIte, reduceCtorEq, cl1_i, cl1_r, cl1_n, cl1_0, cl1_J, okS_0, okS_1, okS_2, okS_3, okS_4, bB_0, bB_and, z_0, z_1, z_10, bB_t, bB_f, Bool.true_eq_false, Bool.false_eq_true, gT0, gT1, gT2, gT3, gT4, gT5, gT6, gF0, gF1, gF2, gF3, gF4, gS0, gS1, gC0, gC1, iT, iF, iS, iC, sT6_0, sT6_1, sF2, sF3, sF4_0, sF4_1, sS1, sC1, gM0, gM1, gM2, gM3, gM4, gM5, gM6, gM7, gM8, gM9, gM10, gM11, gM12, gM13, gM14, gM15, gM16, gM17, gM18, iM, sM5, sM6, sM11, sM12, sM13, sM14, sM16, sM18, sM2_0, sM2_1, sM3_0, sM3_1, sM4_0, sM4_1, mS_0, mS_1, mS_2, mS_3, mS_4, mS_5, mS_6, mS_7, mS_8, mS_9, mS_10, mS_11, mS_12, mS_13, mS_14, mS_15, mS_16, mS_17, mS_18, decide_true, decide_false, Bool.not_true, Bool.not_false, c97 r3]
  cases hf : fiE (lsO Lo q).1 x with
  | none =>
    refine ⟨R2, 0, 0, ?_⟩
    have hm : (-1 : Int32) < 0 := by decide
    have hv : rmV Lo (lsO Lo q).1 x = -1 := by unfold rmV; rw [hf]
    rw [start, hf, hv, if_neg (by decide)]
    simp only [s117_33, s117_35, s117_37, s117_40, s117_41, Option.bind_some, Option.bind_none, Option.toList_some, Option.toList_none, List.nil_append, List.cons_append, ↓reduceIte, reduceCtorEq, cl1_i, cl1_r, cl1_n, cl1_0, cl1_J, okS_0, okS_1, okS_2, okS_3, okS_4, bB_0, bB_and, z_0, z_1, z_10, bB_t, bB_f, Bool.true_eq_false, Bool.false_eq_true, gT0, gT1, gT2, gT3, gT4, gT5, gT6, gF0, gF1, gF2, gF3, gF4, gS0, gS1, gC0, gC1, iT, iF, iS, iC, sT6_0, sT6_1, sF2, sF3, sF4_0, sF4_1, sS1, sC1, oI_n, hm]
  | some k =>
    obtain ⟨e, he, -⟩ := fiE_get hf
    have hk4 : k < 4 := by have := (fiE_lt hf).1; omega
    have hk : k < 2 ^ 31 := by omega
    have hi4 : inB (nI k) 4 = true := inB_nI hk4 (by decide)
    obtain ⟨hE, hO⟩ := r3.2.2.1 k e he
    have hkp := nI_pos hk
    have mid : RunM 117 [.ref 61, .int (nI q), .int x] (hp sc F s c th be qu mo li (hM (mS f (true) jl R O A))) = if nI e.2.1 = 2 then Run 117 53 [some (.ref 61), some (.int (nI q)), some (.int x), some (.int (oI (act f q))), some (.int (nI k))] [] (hp sc F s c th be qu mo li (hM (mS f (true) jl (R2) O A))) else Run 117 75 [some (.ref 61), some (.int (nI q)), some (.int x), some (.int (oI (act f q))), some (.int (nI k))] [] (hp sc F s c th be qu mo li (hM (mS f (true) jl (R2) O A))) := by
      rw [start, hf]
      simp only [s117_33, s117_35, s117_37, s117_42, s117_42n, s117_43, s117_46, s117_48, s117_49, s117_50, Option.bind_some, Option.bind_none, Option.toList_some, Option.toList_none, List.nil_append, List.cons_append, ↓reduceIte, reduceCtorEq, cl1_i, cl1_r, cl1_n, cl1_0, cl1_J, okS_0, okS_1, okS_2, okS_3, okS_4, bB_0, bB_and, z_0, z_1, z_10, bB_t, bB_f, Bool.true_eq_false, Bool.false_eq_true, gT0, gT1, gT2, gT3, gT4, gT5, gT6, gF0, gF1, gF2, gF3, gF4, gS0, gS1, gC0, gC1, iT, iF, iS, iC, sT6_0, sT6_1, sF2, sF3, sF4_0, sF4_1, sS1, sC1, gM0, gM1, gM2, gM3, gM4, gM5, gM6, gM7, gM8, gM9, gM10, gM11, gM12, gM13, gM14, gM15, gM16, gM17, gM18, iM, sM5, sM6, sM11, sM12, sM13, sM14, sM16, sM18, sM2_0, sM2_1, sM3_0, sM3_1, sM4_0, sM4_1, mS_0, mS_1, mS_2, mS_3, mS_4, mS_5, mS_6, mS_7, mS_8, mS_9, mS_10, mS_11, mS_12, mS_13, mS_14, mS_15, mS_16, mS_17, mS_18, decide_true, decide_false, Bool.not_true, Bool.not_false, oI_s, hkp, a65 hi4, nI_clamp hk, hE.2.1]
    rcases hO.2.2 with ⟨g, -⟩ | ⟨g, hp8, -⟩
    · refine ⟨R2, oI (act f q), nI k, ?_⟩
      have g1 : ¬ nI e.2.1 = 2 := by rw [g]; decide
      have g2 : ¬ (e.2.1 = 2 ∧ (lsO Lo e.2.2.1).1 ≠ []) := fun h => by omega
      have hv : rmV Lo (lsO Lo q).1 x = 0 := by unfold rmV; rw [hf]; dsimp only; rw [he]; exact if_neg g2
      rw [mid, hv, if_pos rfl, if_neg g1]
    · have g1 : nI e.2.1 = 2 := by rw [g]; rfl
      obtain ⟨R3, r4, r5⟩ := c101q (sc := sc) (F := F) (s := s) (c := c) (th := th) (be := be) (qu := qu) (mo := mo) (li := li) (f := f) (mt := true) (jl := jl) (R := R2) (O := O) (A := A) hX hp8
      refine ⟨R3, oI (act f e.2.2.1), nI k, ?_⟩
      rw [mid, if_pos g1]
      have mid2 : Run 117 53 [some (.ref 61), some (.int (nI q)), some (.int x), some (.int (oI (act f q))), some (.int (nI k))] [] (hp sc F s c th be qu mo li (hM (mS f (true) jl (R2) O A))) = Run 117 69 [some (.ref 61), some (.int (nI q)), some (.int x), some (.int (oI (act f e.2.2.1))), some (.int (nI k))] [.int (nI (lsO Lo e.2.2.1).1.length)] (hp sc F s c th be qu mo li (hM (mS f (true) jl (R3) O A))) := by
        simp only [s117_53, s117_53n, s117_54, s117_54n, s117_55, s117_58, s117_60, Option.bind_some, Option.bind_none, Option.toList_some, Option.toList_none, List.nil_append, List.cons_append, ↓reduceIte, reduceCtorEq, cl1_i, cl1_r, cl1_n, cl1_0, cl1_J, okS_0, okS_1, okS_2, okS_3, okS_4, bB_0, bB_and, z_0, z_1, z_10, bB_t, bB_f, Bool.true_eq_false, Bool.false_eq_true, gT0, gT1, gT2, gT3, gT4, gT5, gT6, gF0, gF1, gF2, gF3, gF4, gS0, gS1, gC0, gC1, iT, iF, iS, iC, sT6_0, sT6_1, sF2, sF3, sF4_0, sF4_1, sS1, sC1, gM0, gM1, gM2, gM3, gM4, gM5, gM6, gM7, gM8, gM9, gM10, gM11, gM12, gM13, gM14, gM15, gM16, gM17, gM18, iM, sM5, sM6, sM11, sM12, sM13, sM14, sM16, sM18, sM2_0, sM2_1, sM3_0, sM3_1, sM4_0, sM4_1, mS_0, mS_1, mS_2, mS_3, mS_4, mS_5, mS_6, mS_7, mS_8, mS_9, mS_10, mS_11, mS_12, mS_13, mS_14, mS_15, mS_16, mS_17, mS_18, decide_true, decide_false, Bool.not_true, Bool.not_false, a66 hi4, nI_clamp hk, hE.2.2.1]
        simp only [s117_61, s117_64, s117_65, s117_65n, s117_66, Option.bind_some, Option.bind_none, Option.toList_some, Option.toList_none, List.nil_append, List.cons_append, ↓reduceIte, reduceCtorEq, cl1_i, cl1_r, cl1_n, cl1_0, cl1_J, okS_0, okS_1, okS_2, okS_3, okS_4, bB_0, bB_and, z_0, z_1, z_10, bB_t, bB_f, Bool.true_eq_false, Bool.false_eq_true, gT0, gT1, gT2, gT3, gT4, gT5, gT6, gF0, gF1, gF2, gF3, gF4, gS0, gS1, gC0, gC1, iT, iF, iS, iC, sT6_0, sT6_1, sF2, sF3, sF4_0, sF4_1, sS1, sC1, gM0, gM1, gM2, gM3, gM4, gM5, gM6, gM7, gM8, gM9, gM10, gM11, gM12, gM13, gM14, gM15, gM16, gM17, gM18, iM, sM5, sM6, sM11, sM12, sM13, sM14, sM16, sM18, sM2_0, sM2_1, sM3_0, sM3_1, sM4_0, sM4_1, mS_0, mS_1, mS_2, mS_3, mS_4, mS_5, mS_6, mS_7, mS_8, mS_9, mS_10, mS_11, mS_12, mS_13, mS_14, mS_15, mS_16, mS_17, mS_18, decide_true, decide_false, Bool.not_true, Bool.not_false, r4, r5.2.1]
      rw [mid2]
      by_cases h9 : (lsO Lo e.2.2.1).1 = []
      · have hv : rmV Lo (lsO Lo q).1 x = 0 := by unfold rmV; rw [hf]; dsimp only; rw [he]; exact if_neg (fun h => h.2 h9)
        rw [hv, if_pos rfl, h9]
        have hz : ¬ (0 : Int32) < nI ([] : List En).length := by decide
        simp only [s117_69, Option.bind_some, Option.bind_none, Option.toList_some, Option.toList_none, List.nil_append, List.cons_append, ↓reduceIte, reduceCtorEq, cl1_i, cl1_r, cl1_n, cl1_0, cl1_J, okS_0, okS_1, okS_2, okS_3, okS_4, bB_0, bB_and, z_0, z_1, z_10, bB_t, bB_f, Bool.true_eq_false, Bool.false_eq_true, gT0, gT1, gT2, gT3, gT4, gT5, gT6, gF0, gF1, gF2, gF3, gF4, gS0, gS1, gC0, gC1, iT, iF, iS, iC, sT6_0, sT6_1, sF2, sF3, sF4_0, sF4_1, sS1, sC1, hz]
      · have hv : rmV Lo (lsO Lo q).1 x = -5 := by unfold rmV; rw [hf]; dsimp only; rw [he]; exact if_pos ⟨g, h9⟩
        have hz : (0 : Int32) < nI (lsO Lo e.2.2.1).1.length := by
          have h8 := List.length_pos_iff.mpr h9
          have := nI_lt (a := 0) h8 (by have := r5.1; omega)
          rwa [nI_0] at this
        rw [hv, if_neg (by decide)]
        simp only [s117_69, s117_72, s117_74, Option.bind_some, Option.bind_none, Option.toList_some, Option.toList_none, List.nil_append, List.cons_append, ↓reduceIte, reduceCtorEq, cl1_i, cl1_r, cl1_n, cl1_0, cl1_J, okS_0, okS_1, okS_2, okS_3, okS_4, bB_0, bB_and, z_0, z_1, z_10, bB_t, bB_f, Bool.true_eq_false, Bool.false_eq_true, gT0, gT1, gT2, gT3, gT4, gT5, gT6, gF0, gF1, gF2, gF3, gF4, gS0, gS1, gC0, gC1, iT, iF, iS, iC, sT6_0, sT6_1, sF2, sF3, sF4_0, sF4_1, sS1, sC1, hz]
end RMM
section BR
variable {sc : AC} {d x : Int32}
theorem B61 : Bo sc 61 117 [.int d, .int x] := by
  rintro H ⟨f, s, c, th, be, qu, mt, li, jl, R, O, A, Lo, rfl, hX, hS, hU⟩
  cases mt with
  | false => exact boS hX hS hU (n61 (Lo := Lo) (fun h => by cases h)) ⟨R, O, u117 rfl⟩
  | true =>
    obtain ⟨hd, h0, hno, hA, hT⟩ := hU rfl
    cases ht : tIn Lo d with
    | false =>
      obtain ⟨R', r1⟩ := w117 (sc := sc) (F := fB f) (s := s) (c := c) (th := th) (be := be) (qu := qu) (mo := bB true) (li := li) (f := f) (jl := jl) (R := R) (O := O) (A := A) hd hX (x := x) ht
      rw [← refu_t hd] at r1
      exact boS hX hS hU (n61 (Lo := Lo) (fun _ => ⟨hT, ht⟩)) ⟨R', O, r1⟩
    | true =>
      obtain ⟨q, hq, rfl, hb⟩ := tIn_q ht
      have hr0 := ((hX.rc (a := 0) (by decide)).2 q).mp hb
      obtain ⟨y, z, e1⟩ := s61 (sc := sc) (F := fB f) (s := s) (c := c) (be := be) (qu := qu) (mm := hM (mS f true jl R O A)) (x := x) hT hA hq hb
      have mod := fun (F : FlS) (s c : OpS) (th be qu : Nat → Int32) (mo : Int32) (li : Nat → LiS) => s117 (sc := sc) (F := F) (s := s) (c := c) (th := th) (be := be) (qu := qu) (mo := mo) (li := li) (jl := jl) (R := R) (O := O) (A := A) (x := x) hd hX hq hb
      by_cases hV : rmV Lo (lsO Lo q).1 x = 0
      · rw [if_pos hV] at e1
        obtain ⟨a, k, e, ha1, ha2, rfl, hfk, hek, -⟩ := rm_name (hX.okE q hq) hV
        have hst : ∃ st, Lo q = some st := by
          by_cases hq0 : q = 0
          · subst hq0; exact Option.isSome_iff_exists.mp h0
          · exact Option.isSome_iff_exists.mp (hS.1 q hr0 hq0)
        obtain ⟨st, hst⟩ := hst
        have hls := lsO_of hst
        have hLq := hA q hq
        rw [hls] at hLq
        let o : Opn := (3, a, 0, [])
        have hoO : OkO o := Or.inr (Or.inr (Or.inl ⟨rfl, ha2⟩))
        have hF : FitS st [o] := FitS_one hoO (fun h => by rcases h with h | h <;> cases h)
        have henc : encS [o] = [3, nI a] := rfl
        have hlen : (encS [o]).length ≤ 32 := by rw [henc]; exact Nat.le_of_ble_eq_true rfl
        have hno2 : (apS st [o]).2 = none := by
          have := hno q hr0
          rw [hls] at this
          exact this
        have hkid : ∀ y ∈ kids (apS st [o]).1, Rch (lsO Lo) 0 y ∨ Lo y = some nilL := fun y hy => Or.inl (hr0.step (by rw [hls]; exact kids_gone (es := st.1) (a := a) hy))
        obtain ⟨f1, f2, f3⟩ := finC hS h0 hno (q := q) hkid hno2
        obtain ⟨l', s', r5, r6⟩ := c17q (sc := sc) (s := s) (th := th) (be := be) (qu := qu) (mo := 1) (mm := hM (mS f true jl R O A)) (li := li) hX hq hst hLq hF hlen (j := c.1)
        obtain ⟨x1, x2⟩ := hX.cm hq hst hF
        obtain ⟨dk1, dk2⟩ := cmq_dark (f := f) (q := q) (os := [o]) (st := st) hd
        have hcls : RunM 61 [.ref 1, .int (nI q), .int (nI a)] (hp sc (fB f) s c th be qu (bB (true)) li (hM (mS f (true) jl R O A))) = (RunM 73 [.ref 1, .int (bB (cmq f q [o] st).1), .int 0] (hp sc (fB (cmq f q [o] st).2) s' (opf c.1 (encS [o])) th be qu 1 (upL li q l') (hM (mS f true jl R O A)))).bind fun p => Run 61 95 [some (.ref 1), some (.int (nI q)), some (.int (nI a)), some (.ref (13 + 6 * q)), some (.int y), z] (p.1.toList ++ []) p.2 := by
          refine e1.trans ?_
          simp only [s61_67, s61_67n, s61_68, s61_71, Option.bind_some, Option.bind_none, Option.toList_some, Option.toList_none, List.nil_append, List.cons_append, ↓reduceIte, reduceCtorEq, cl1_i, cl1_r, cl1_n, cl1_0, cl1_J, okS_0, okS_1, okS_2, okS_3, okS_4, bB_0, bB_and, z_0, z_1, z_10, bB_t, bB_f, Bool.true_eq_false, Bool.false_eq_true, gT0, gT1, gT2, gT3, gT4, gT5, gT6, gF0, gF1, gF2, gF3, gF4, gS0, gS1, gC0, gC1, iT, iF, iS, iC, sT6_0, sT6_1, sF2, sF3, sF4_0, sF4_1, sS1, sC1, c43c]
          simp only [s61_74, s61_74n, s61_75, s61_78, s61_79, Option.bind_some, Option.bind_none, Option.toList_some, Option.toList_none, List.nil_append, List.cons_append, ↓reduceIte, reduceCtorEq, cl1_i, cl1_r, cl1_n, cl1_0, cl1_J, okS_0, okS_1, okS_2, okS_3, okS_4, bB_0, bB_and, z_0, z_1, z_10, bB_t, bB_f, Bool.true_eq_false, Bool.false_eq_true, gT0, gT1, gT2, gT3, gT4, gT5, gT6, gF0, gF1, gF2, gF3, gF4, gS0, gS1, gC0, gC1, iT, iF, iS, iC, sT6_0, sT6_1, sF2, sF3, sF4_0, sF4_1, sS1, sC1, c49c (show ([] : List Int32).length + 2 ≤ 64 by decide), List.nil_append]
          rw [← henc]
          simp only [s61_82, s61_82n, s61_83, s61_83n, s61_84, s61_84n, s61_85, s61_88, Option.bind_some, Option.bind_none, Option.toList_some, Option.toList_none, List.nil_append, List.cons_append, ↓reduceIte, reduceCtorEq, cl1_i, cl1_r, cl1_n, cl1_0, cl1_J, okS_0, okS_1, okS_2, okS_3, okS_4, bB_0, bB_and, z_0, z_1, z_10, bB_t, bB_f, Bool.true_eq_false, Bool.false_eq_true, gT0, gT1, gT2, gT3, gT4, gT5, gT6, gF0, gF1, gF2, gF3, gF4, gS0, gS1, gC0, gC1, iT, iF, iS, iC, sT6_0, sT6_1, sF2, sF3, sF4_0, sF4_1, sS1, sC1, iO_ hq, r5]
          simp only [s61_91, s61_92, Option.bind_some, Option.bind_none, Option.toList_some, Option.toList_none, List.nil_append, List.cons_append, ↓reduceIte, reduceCtorEq, cl1_i, cl1_r, cl1_n, cl1_0, cl1_J, okS_0, okS_1, okS_2, okS_3, okS_4, bB_0, bB_and, z_0, z_1, z_10, bB_t, bB_f, Bool.true_eq_false, Bool.false_eq_true, gT0, gT1, gT2, gT3, gT4, gT5, gT6, gF0, gF1, gF2, gF3, gF4, gS0, gS1, gC0, gC1, iT, iF, iS, iC, sT6_0, sT6_1, sF2, sF3, sF4_0, sF4_1, sS1, sC1]
        have hmod : ∀ (F : FlS) (s c : OpS) (th be qu : Nat → Int32) (mo : Int32) (li : Nat → LiS), ∃ R' O' A', RunM 117 [.ref 61, .int (nI q), .int (nI a)] (hp sc F s c th be qu mo li (hM (mS f (true) jl R O A))) = some (some (.int (if (cmq f q [o] st).1 = true then 0 else -9)), (hp sc F s c th be qu mo li (hM (mS ((cmq f q [o] st).2) ((cmq f q [o] st).1) (jA (cmq f q [o] st).1 jl) (R') (O') (A'))))) := by
          intro F s c th be qu mo li
          obtain ⟨R2, y2, z2, m3⟩ := mod F s c th be qu mo li
          rw [if_pos hV] at m3
          obtain ⟨R3, A3, r8⟩ := c105q (sc := sc) (F := F) (s := s) (c := c) (th := th) (be := be) (qu := qu) (mo := mo) (li := li) (f := f) (mt := true) (jl := jl) (R := R2) (A := A) (j := O.1) hd hX hq hst hF hlen
          refine ⟨R3, opf O.1 (encS [o]), A3, m3.trans ?_⟩
          simp only [s117_75, s117_75n, s117_76, s117_77, s117_80, s117_80n, s117_81, Option.bind_some, Option.bind_none, Option.toList_some, Option.toList_none, List.nil_append, List.cons_append, ↓reduceIte, reduceCtorEq, cl1_i, cl1_r, cl1_n, cl1_0, cl1_J, okS_0, okS_1, okS_2, okS_3, okS_4, bB_0, bB_and, z_0, z_1, z_10, bB_t, bB_f, Bool.true_eq_false, Bool.false_eq_true, gT0, gT1, gT2, gT3, gT4, gT5, gT6, gF0, gF1, gF2, gF3, gF4, gS0, gS1, gC0, gC1, iT, iF, iS, iC, sT6_0, sT6_1, sF2, sF3, sF4_0, sF4_1, sS1, sC1, gM0, gM1, gM2, gM3, gM4, gM5, gM6, gM7, gM8, gM9, gM10, gM11, gM12, gM13, gM14, gM15, gM16, gM17, gM18, iM, sM5, sM6, sM11, sM12, sM13, sM14, sM18, sM2_0, sM2_1, sM3_0, sM3_1, sM4_0, sM4_1, mS_0, mS_1, mS_2, mS_3, mS_4, mS_5, mS_6, mS_7, mS_8, mS_9, mS_10, mS_11, mS_12, mS_13, mS_14, mS_15, mS_16, mS_17, mS_18, decide_true, decide_false, Bool.not_true, Bool.not_false, sM16r]
          simp only [s117_82, s117_85, s117_85n, s117_86, Option.bind_some, Option.bind_none, Option.toList_some, Option.toList_none, List.nil_append, List.cons_append, ↓reduceIte, reduceCtorEq, cl1_i, cl1_r, cl1_n, cl1_0, cl1_J, okS_0, okS_1, okS_2, okS_3, okS_4, bB_0, bB_and, z_0, z_1, z_10, bB_t, bB_f, Bool.true_eq_false, Bool.false_eq_true, gT0, gT1, gT2, gT3, gT4, gT5, gT6, gF0, gF1, gF2, gF3, gF4, gS0, gS1, gC0, gC1, iT, iF, iS, iC, sT6_0, sT6_1, sF2, sF3, sF4_0, sF4_1, sS1, sC1, gM0, gM1, gM2, gM3, gM4, gM5, gM6, gM7, gM8, gM9, gM10, gM11, gM12, gM13, gM14, gM15, gM16, gM17, gM18, iM, sM5, sM6, sM11, sM12, sM13, sM14, sM18, sM2_0, sM2_1, sM3_0, sM3_1, sM4_0, sM4_1, mS_0, mS_1, mS_2, mS_3, mS_4, mS_5, mS_6, mS_7, mS_8, mS_9, mS_10, mS_11, mS_12, mS_13, mS_14, mS_15, mS_16, mS_17, mS_18, decide_true, decide_false, Bool.not_true, Bool.not_false, sM16r, c107 (show ([] : List Int32).length < 32 by decide), List.nil_append]
          simp only [s117_87, s117_90, s117_90n, s117_91, s117_91n, s117_92, Option.bind_some, Option.bind_none, Option.toList_some, Option.toList_none, List.nil_append, List.cons_append, ↓reduceIte, reduceCtorEq, cl1_i, cl1_r, cl1_n, cl1_0, cl1_J, okS_0, okS_1, okS_2, okS_3, okS_4, bB_0, bB_and, z_0, z_1, z_10, bB_t, bB_f, Bool.true_eq_false, Bool.false_eq_true, gT0, gT1, gT2, gT3, gT4, gT5, gT6, gF0, gF1, gF2, gF3, gF4, gS0, gS1, gC0, gC1, iT, iF, iS, iC, sT6_0, sT6_1, sF2, sF3, sF4_0, sF4_1, sS1, sC1, gM0, gM1, gM2, gM3, gM4, gM5, gM6, gM7, gM8, gM9, gM10, gM11, gM12, gM13, gM14, gM15, gM16, gM17, gM18, iM, sM5, sM6, sM11, sM12, sM13, sM14, sM18, sM2_0, sM2_1, sM3_0, sM3_1, sM4_0, sM4_1, mS_0, mS_1, mS_2, mS_3, mS_4, mS_5, mS_6, mS_7, mS_8, mS_9, mS_10, mS_11, mS_12, mS_13, mS_14, mS_15, mS_16, mS_17, mS_18, decide_true, decide_false, Bool.not_true, Bool.not_false, sM16r, c107 (bs := [3]) (v := nI a) (Nat.le_of_ble_eq_true rfl), List.cons_append, List.nil_append]
          rw [← henc]
          simp only [s117_93, Option.bind_some, Option.bind_none, Option.toList_some, Option.toList_none, List.nil_append, List.cons_append, ↓reduceIte, reduceCtorEq, cl1_i, cl1_r, cl1_n, cl1_0, cl1_J, okS_0, okS_1, okS_2, okS_3, okS_4, bB_0, bB_and, z_0, z_1, z_10, bB_t, bB_f, Bool.true_eq_false, Bool.false_eq_true, gT0, gT1, gT2, gT3, gT4, gT5, gT6, gF0, gF1, gF2, gF3, gF4, gS0, gS1, gC0, gC1, iT, iF, iS, iC, sT6_0, sT6_1, sF2, sF3, sF4_0, sF4_1, sS1, sC1, gM0, gM1, gM2, gM3, gM4, gM5, gM6, gM7, gM8, gM9, gM10, gM11, gM12, gM13, gM14, gM15, gM16, gM17, gM18, iM, sM5, sM6, sM11, sM12, sM13, sM14, sM18, sM2_0, sM2_1, sM3_0, sM3_1, sM4_0, sM4_1, mS_0, mS_1, mS_2, mS_3, mS_4, mS_5, mS_6, mS_7, mS_8, mS_9, mS_10, mS_11, mS_12, mS_13, mS_14, mS_15, mS_16, mS_17, mS_18, decide_true, decide_false, Bool.not_true, Bool.not_false, sM16r, r8]
          simp only [s117_96, s117_97, s117_100, Option.bind_some, Option.bind_none, Option.toList_some, Option.toList_none, List.nil_append, List.cons_append, ↓reduceIte, reduceCtorEq, cl1_i, cl1_r, cl1_n, cl1_0, cl1_J, okS_0, okS_1, okS_2, okS_3, okS_4, bB_0, bB_and, z_0, z_1, z_10, bB_t, bB_f, Bool.true_eq_false, Bool.false_eq_true, gT0, gT1, gT2, gT3, gT4, gT5, gT6, gF0, gF1, gF2, gF3, gF4, gS0, gS1, gC0, gC1, iT, iF, iS, iC, sT6_0, sT6_1, sF2, sF3, sF4_0, sF4_1, sS1, sC1, gM0, gM1, gM2, gM3, gM4, gM5, gM6, gM7, gM8, gM9, gM10, gM11, gM12, gM13, gM14, gM15, gM16, gM17, gM18, iM, sM5, sM6, sM11, sM12, sM13, sM14, sM18, sM2_0, sM2_1, sM3_0, sM3_1, sM4_0, sM4_1, mS_0, mS_1, mS_2, mS_3, mS_4, mS_5, mS_6, mS_7, mS_8, mS_9, mS_10, mS_11, mS_12, mS_13, mS_14, mS_15, mS_16, mS_17, mS_18, decide_true, decide_false, Bool.not_true, Bool.not_false, sM16r, c111, Bool.and_true]
        cases hr : (cmq f q [o] st).1 with
        | true =>
          have hX' := x1 hr
          have hA' : LiA (upO Lo q (some (apS st [o]))) (upL li q l') := hA.up r6
          obtain ⟨th', qu', r9, r10⟩ := c73t (sc := sc) (F := fB (cmq f q [o] st).2) (s := s') (c := opf c.1 (encS [o])) (th := th) (be := be) (qu := qu) (mo := 1) (mm := hM (mS f true jl R O A)) (v := 0) ⟨_, hX'⟩ hA'
          obtain ⟨R', O', A', m9⟩ := hmod (fB (cmq f q [o] st).2) s' (opf c.1 (encS [o])) th' be qu' 1 (upL li q l')
          rw [hr] at m9
          rw [hr, show bB true = 1 from rfl, r9] at hcls
          refine ⟨some (.int 0), _, (hp sc (fB ((cmq f q [o] st).2)) (s') (opf c.1 (encS [o])) (th') be (qu') (bB (true)) (upL li q l') (hM (mS ((cmq f q [o] st).2) (true) (jA true jl) (R') (O') (A')))), hcls.trans ?_, m9, mkI hX' f1 (fun _ => ⟨dk2 hr, f2, f3, hA', r10⟩)⟩
          simp only [s61_95, Option.bind_some, Option.bind_none, Option.toList_some, Option.toList_none, List.nil_append, List.cons_append, ↓reduceIte, reduceCtorEq, cl1_i, cl1_r, cl1_n, cl1_0, cl1_J, okS_0, okS_1, okS_2, okS_3, okS_4, bB_0, bB_and, z_0, z_1, z_10, bB_t, bB_f, Bool.true_eq_false, Bool.false_eq_true, gT0, gT1, gT2, gT3, gT4, gT5, gT6, gF0, gF1, gF2, gF3, gF4, gS0, gS1, gC0, gC1, iT, iF, iS, iC, sT6_0, sT6_1, sF2, sF3, sF4_0, sF4_1, sS1, sC1]
        | false =>
          obtain ⟨R', O', A', m9⟩ := hmod (fB (cmq f q [o] st).2) s' (opf c.1 (encS [o])) th be qu 0 (upL li q l')
          rw [hr] at m9
          rw [hr, show bB false = 0 from rfl, c73f] at hcls
          refine ⟨some (.int (-9)), _, (hp sc (fB ((cmq f q [o] st).2)) (s') (opf c.1 (encS [o])) th be qu (bB (false)) (upL li q l') (hM (mS ((cmq f q [o] st).2) (false) (jA false jl) (R') (O') (A')))), hcls.trans ?_, m9, mkI (x2 hr) hS (fun h => by cases h)⟩
          simp only [s61_95, Option.bind_some, Option.bind_none, Option.toList_some, Option.toList_none, List.nil_append, List.cons_append, ↓reduceIte, reduceCtorEq, cl1_i, cl1_r, cl1_n, cl1_0, cl1_J, okS_0, okS_1, okS_2, okS_3, okS_4, bB_0, bB_and, z_0, z_1, z_10, bB_t, bB_f, Bool.true_eq_false, Bool.false_eq_true, gT0, gT1, gT2, gT3, gT4, gT5, gT6, gF0, gF1, gF2, gF3, gF4, gS0, gS1, gC0, gC1, iT, iF, iS, iC, sT6_0, sT6_1, sF2, sF3, sF4_0, sF4_1, sS1, sC1]
      · rw [if_neg hV] at e1
        obtain ⟨R2, y2, z2, m3⟩ := mod (fB f) s c th be qu 1 li
        rw [if_neg hV] at m3
        exact boS hX hS hU e1 ⟨R2, O, m3⟩
end BR
