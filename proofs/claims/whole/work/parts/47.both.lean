/-! ===== Both sides: the calls that read, cut, off, on, format ===== -/
theorem mkI {sc : AC} {f : FB} {s c : OpS} {th be qu : Nat → Int32} {mt : Bool} {li : Nat → LiS} {jl : Int32} {R : RgS} {O A : OpS} {Lo : LO} {F1 : FlS} {s1 c1 : OpS} {th1 be1 qu1 : Nat → Int32} {mo1 : Int32} {li1 : Nat → LiS} {M1 : MoS} (h1 : IX f Lo) (h2 : Sh Lo) (h3 : mt = true → Mt f Lo li th) : IV sc (hp sc F1 s1 c1 th1 be1 qu1 mo1 li1 (hM M1)) (hp sc (fB f) s c th be qu (bB mt) li (hM (mS f mt jl R O A))) := ⟨⟨f, s, c, th, be, qu, mt, li, jl, R, O, A, Lo, rfl, h1, h2, h3⟩, F1, s1, c1, th1, be1, qu1, mo1, li1, M1, rfl⟩
theorem tIn_q {Lo : LO} {d : Int32} (h : tIn Lo d = true) : ∃ q, q < 8 ∧ d = nI q ∧ (froS (lsO Lo) 0).testBit q = true := by
  unfold tIn at h
  rw [Bool.and_eq_true] at h
  obtain ⟨q, hq, rfl⟩ := inB_of h.1 (by decide)
  rw [nI_clamp (by omega)] at h
  exact ⟨q, hq, rfl, h.2⟩
section BOTH
variable {sc : AC} {d x : Int32}
theorem B63 : Bo sc 63 121 [.int d, .int x] := by
  rintro H ⟨f, s, c, th, be, qu, mt, li, jl, R, O, A, Lo, rfl, hX, hS, hU⟩
  cases mt with
  | false => exact ⟨some (.int (refu f false)), _, _, n63 (Lo := Lo) (fun h => by cases h), u121 rfl, mkI hX hS hU⟩
  | true =>
    obtain ⟨hd, h0, hno, hA, hT⟩ := hU rfl
    cases ht : tIn Lo d with
    | false =>
      obtain ⟨R', r1⟩ := w121 (sc := sc) (F := fB f) (s := s) (c := c) (th := th) (be := be) (qu := qu) (mo := bB true) (li := li) (f := f) (mt := true) (jl := jl) (R := R) (O := O) (A := A) rfl hd hX (x := x) ht
      have e9 : refu f true = -1 := by rw [refu_t hd]; try rfl
      rw [← e9] at r1
      exact ⟨_, _, _, n63 (Lo := Lo) (fun _ => ⟨hT, ht⟩), r1, mkI (R := R') hX hS hU⟩
    | true =>
      obtain ⟨q, hq, rfl, hb⟩ := tIn_q ht
      obtain ⟨R', r1⟩ := y121 (sc := sc) (F := fB f) (s := s) (c := c) (th := th) (be := be) (qu := qu) (mo := 1) (li := li) (f := f) (jl := jl) (R := R) (O := O) (A := A) hd hX hq hb (x := x)
      exact ⟨_, _, _, y63 hT hq hb (hA q hq), r1, mkI (R := R') hX hS hU⟩
theorem B64 : Bo sc 64 122 [.int d, .int x] := by
  rintro H ⟨f, s, c, th, be, qu, mt, li, jl, R, O, A, Lo, rfl, hX, hS, hU⟩
  cases mt with
  | false => exact ⟨some (.int (refu f false)), _, _, n64 (Lo := Lo) (fun h => by cases h), u122 rfl, mkI hX hS hU⟩
  | true =>
    obtain ⟨hd, h0, hno, hA, hT⟩ := hU rfl
    cases ht : tIn Lo d with
    | false =>
      obtain ⟨R', r1⟩ := w122 (sc := sc) (F := fB f) (s := s) (c := c) (th := th) (be := be) (qu := qu) (mo := bB true) (li := li) (f := f) (mt := true) (jl := jl) (R := R) (O := O) (A := A) rfl hd hX (x := x) ht
      have e9 : refu f true = -1 := by rw [refu_t hd]; try rfl
      rw [← e9] at r1
      exact ⟨_, _, _, n64 (Lo := Lo) (fun _ => ⟨hT, ht⟩), r1, mkI (R := R') hX hS hU⟩
    | true =>
      obtain ⟨q, hq, rfl, hb⟩ := tIn_q ht
      obtain ⟨R', r1⟩ := y122 (sc := sc) (F := fB f) (s := s) (c := c) (th := th) (be := be) (qu := qu) (mo := 1) (li := li) (f := f) (jl := jl) (R := R) (O := O) (A := A) hd hX hq hb (x := x)
      exact ⟨_, _, _, y64 hT hq hb (hA q hq), r1, mkI (R := R') hX hS hU⟩
theorem B65 : Bo sc 65 123 [.int d, .int x] := by
  rintro H ⟨f, s, c, th, be, qu, mt, li, jl, R, O, A, Lo, rfl, hX, hS, hU⟩
  cases mt with
  | false => exact ⟨some (.int (refu f false)), _, _, n65 (Lo := Lo) (fun h => by cases h), u123 rfl, mkI hX hS hU⟩
  | true =>
    obtain ⟨hd, h0, hno, hA, hT⟩ := hU rfl
    cases ht : tIn Lo d with
    | false =>
      obtain ⟨R', r1⟩ := w123 (sc := sc) (F := fB f) (s := s) (c := c) (th := th) (be := be) (qu := qu) (mo := bB true) (li := li) (f := f) (mt := true) (jl := jl) (R := R) (O := O) (A := A) rfl hd hX (x := x) ht
      have e9 : refu f true = -1 := by rw [refu_t hd]; try rfl
      rw [← e9] at r1
      exact ⟨_, _, _, n65 (Lo := Lo) (fun _ => ⟨hT, ht⟩), r1, mkI (R := R') hX hS hU⟩
    | true =>
      obtain ⟨q, hq, rfl, hb⟩ := tIn_q ht
      obtain ⟨R', r1⟩ := y123 (sc := sc) (F := fB f) (s := s) (c := c) (th := th) (be := be) (qu := qu) (mo := 1) (li := li) (f := f) (jl := jl) (R := R) (O := O) (A := A) hd hX hq hb (x := x)
      exact ⟨_, _, _, y65 hT hq hb (hA q hq), r1, mkI (R := R') hX hS hU⟩
theorem B66 : Bo sc 66 124 [.int d, .int x] := by
  rintro H ⟨f, s, c, th, be, qu, mt, li, jl, R, O, A, Lo, rfl, hX, hS, hU⟩
  cases mt with
  | false => exact ⟨some (.long ((refu f false).toInt64)), _, _, n66 (Lo := Lo) (fun h => by cases h), u124 rfl, mkI hX hS hU⟩
  | true =>
    obtain ⟨hd, h0, hno, hA, hT⟩ := hU rfl
    cases ht : tIn Lo d with
    | false =>
      obtain ⟨R', r1⟩ := w124 (sc := sc) (F := fB f) (s := s) (c := c) (th := th) (be := be) (qu := qu) (mo := bB true) (li := li) (f := f) (mt := true) (jl := jl) (R := R) (O := O) (A := A) rfl hd hX (x := x) ht
      have e9 : (refu f true).toInt64 = -1 := by rw [refu_t hd]; try rfl
      rw [← e9] at r1
      exact ⟨_, _, _, n66 (Lo := Lo) (fun _ => ⟨hT, ht⟩), r1, mkI (R := R') hX hS hU⟩
    | true =>
      obtain ⟨q, hq, rfl, hb⟩ := tIn_q ht
      obtain ⟨R', r1⟩ := y124 (sc := sc) (F := fB f) (s := s) (c := c) (th := th) (be := be) (qu := qu) (mo := 1) (li := li) (f := f) (jl := jl) (R := R) (O := O) (A := A) hd hX hq hb (x := x)
      exact ⟨_, _, _, y66 hT hq hb (hA q hq), r1, mkI (R := R') hX hS hU⟩
theorem B66L : ∀ H, INV sc H → ∃ (w : Int64) (H1 H2 : AH), RunM 66 [.ref 1, .int d, .int x] H = some (some (.long w), H1) ∧ RunM 124 [.ref 61, .int d, .int x] H1 = some (some (.long w), H2) ∧ IV sc H1 H2 := by
  rintro H ⟨f, s, c, th, be, qu, mt, li, jl, R, O, A, Lo, rfl, hX, hS, hU⟩
  cases mt with
  | false => exact ⟨(refu f false).toInt64, _, _, n66 (Lo := Lo) (fun h => by cases h), u124 rfl, mkI hX hS hU⟩
  | true =>
    obtain ⟨hd, h0, hno, hA, hT⟩ := hU rfl
    cases ht : tIn Lo d with
    | false =>
      obtain ⟨R', r1⟩ := w124 (sc := sc) (F := fB f) (s := s) (c := c) (th := th) (be := be) (qu := qu) (mo := bB true) (li := li) (f := f) (mt := true) (jl := jl) (R := R) (O := O) (A := A) rfl hd hX (x := x) ht
      have e9 : (refu f true).toInt64 = -1 := by rw [refu_t hd]; try rfl
      rw [← e9] at r1
      exact ⟨_, _, _, n66 (Lo := Lo) (fun _ => ⟨hT, ht⟩), r1, mkI (R := R') hX hS hU⟩
    | true =>
      obtain ⟨q, hq, rfl, hb⟩ := tIn_q ht
      obtain ⟨R', r1⟩ := y124 (sc := sc) (F := fB f) (s := s) (c := c) (th := th) (be := be) (qu := qu) (mo := 1) (li := li) (f := f) (jl := jl) (R := R) (O := O) (A := A) hd hX hq hb (x := x)
      exact ⟨_, _, _, y66 hT hq hb (hA q hq), r1, mkI (R := R') hX hS hU⟩
theorem B67 : Bo sc 67 125 [.int d, .int x] := by
  rintro H ⟨f, s, c, th, be, qu, mt, li, jl, R, O, A, Lo, rfl, hX, hS, hU⟩
  cases mt with
  | false => exact ⟨some (.int (refu f false)), _, _, n67 (Lo := Lo) (fun h => by cases h), u125 rfl, mkI hX hS hU⟩
  | true =>
    obtain ⟨hd, h0, hno, hA, hT⟩ := hU rfl
    cases ht : tIn Lo d with
    | false =>
      obtain ⟨R', r1⟩ := w125 (sc := sc) (F := fB f) (s := s) (c := c) (th := th) (be := be) (qu := qu) (mo := bB true) (li := li) (f := f) (mt := true) (jl := jl) (R := R) (O := O) (A := A) rfl hd hX (x := x) ht
      have e9 : refu f true = -1 := by rw [refu_t hd]; try rfl
      rw [← e9] at r1
      exact ⟨_, _, _, n67 (Lo := Lo) (fun _ => ⟨hT, ht⟩), r1, mkI (R := R') hX hS hU⟩
    | true =>
      obtain ⟨q, hq, rfl, hb⟩ := tIn_q ht
      obtain ⟨R', r1⟩ := y125 (sc := sc) (F := fB f) (s := s) (c := c) (th := th) (be := be) (qu := qu) (mo := 1) (li := li) (f := f) (jl := jl) (R := R) (O := O) (A := A) hd hX hq hb (x := x)
      exact ⟨_, _, _, y67 hT hq hb (hA q hq), r1, mkI (R := R') hX hS hU⟩
theorem B54 : Bo sc 54 89 [.int x] := by
  rintro H ⟨f, s, c, th, be, qu, mt, li, jl, R, O, A, Lo, rfl, hX, hS, hU⟩
  have e1 : RunM 54 [.ref 1, .int x] (hp sc (fB f) s c th be qu (bB mt) li (hM (mS f mt jl R O A))) = some (none, hp sc (fB (f.1, f.2.1, f.2.2.1, (if x < 0 then -1 else x), f.2.2.2.2)) s c th be qu (bB mt) li (hM (mS f mt jl R O A))) := by
    simp only [e54, s54_0, s54_0n, s54_1, s54_4, s54_5, Option.bind_some, Option.bind_none, Option.toList_some, Option.toList_none, List.nil_append, List.cons_append, ↓reduceIte, reduceCtorEq, cl1_i, cl1_r, cl1_n, cl1_0, cl1_J, okS_0, okS_1, okS_2, okS_3, okS_4, bB_0, bB_and, z_0, z_1, z_10, bB_t, bB_f, Bool.true_eq_false, Bool.false_eq_true, gT0, gT1, gT2, gT3, gT4, gT5, gT6, gF0, gF1, gF2, gF3, gF4, gS0, gS1, gC0, gC1, iT, iF, iS, iC, sT6_0, sT6_1, sF2, sF3, sF4_0, sF4_1, sS1, sC1, c1]
    simp only [s54_8, Option.bind_some, Option.bind_none, Option.toList_some, Option.toList_none, List.nil_append, List.cons_append, ↓reduceIte, reduceCtorEq, cl1_i, cl1_r, cl1_n, cl1_0, cl1_J, okS_0, okS_1, okS_2, okS_3, okS_4, bB_0, bB_and, z_0, z_1, z_10, bB_t, bB_f, Bool.true_eq_false, Bool.false_eq_true, gT0, gT1, gT2, gT3, gT4, gT5, gT6, gF0, gF1, gF2, gF3, gF4, gS0, gS1, gC0, gC1, iT, iF, iS, iC, sT6_0, sT6_1, sF2, sF3, sF4_0, sF4_1, sS1, sC1]
  have hX2 : LfO (f.1, f.2.1, f.2.2.1, (if x < 0 then -1 else x), f.2.2.2.2) → IX (f.1, f.2.1, f.2.2.1, (if x < 0 then -1 else x), f.2.2.2.2) Lo := fun h => ⟨hX.1, h, fun q hq => PI.same (f := f) (fun o ho => rfl) (fun o ho => rfl) (hX.2.2 q hq)⟩
  by_cases h : x < 0
  · refine ⟨none, _, (hp sc (fB ((f.1, f.2.1, f.2.2.1, (if x < 0 then -1 else x), f.2.2.2.2))) s c th be qu (bB mt) li (hM (mS ((f.1, f.2.1, f.2.2.1, (if x < 0 then -1 else x), f.2.2.2.2)) mt (x) R O A))), e1, ?_, mkI (hX2 (Or.inl (if_pos h))) hS hU⟩
    simp only [e89, s89_0, s89_0n, s89_1, s89_2, s89_5, s89_6, s89_9, s89_10, s89_13, s89_13n, s89_14, s89_15, s89_18, Option.bind_some, Option.bind_none, Option.toList_some, Option.toList_none, List.nil_append, List.cons_append, ↓reduceIte, reduceCtorEq, cl1_i, cl1_r, cl1_n, cl1_0, cl1_J, okS_0, okS_1, okS_2, okS_3, okS_4, bB_0, bB_and, z_0, z_1, z_10, bB_t, bB_f, Bool.true_eq_false, Bool.false_eq_true, gT0, gT1, gT2, gT3, gT4, gT5, gT6, gF0, gF1, gF2, gF3, gF4, gS0, gS1, gC0, gC1, iT, iF, iS, iC, sT6_0, sT6_1, sF2, sF3, sF4_0, sF4_1, sS1, sC1, gM0, gM1, gM2, gM3, gM4, gM5, gM6, gM7, gM8, gM9, gM10, gM11, gM12, gM13, gM14, gM15, gM16, gM17, gM18, iM, sM5, sM6, sM11, sM12, sM13, sM14, sM16, sM18, sM2_0, sM2_1, sM3_0, sM3_1, sM4_0, sM4_1, mS_0, mS_1, mS_2, mS_3, mS_4, mS_5, mS_6, mS_7, mS_8, mS_9, mS_10, mS_11, mS_12, mS_13, mS_14, mS_15, mS_16, mS_17, mS_18, decide_true, decide_false, Bool.not_true, Bool.not_false, h]
    rfl
  · have hne : ¬ x = -1 := fun e => by rw [e] at h; exact h (by decide)
    refine ⟨none, _, (hp sc (fB ((f.1, f.2.1, f.2.2.1, (if x < 0 then -1 else x), f.2.2.2.2))) s c th be qu (bB mt) li (hM (mS ((f.1, f.2.1, f.2.2.1, (if x < 0 then -1 else x), f.2.2.2.2)) mt jl R O A))), e1, ?_, mkI (hX2 (Or.inr (by show ¬ (if x < 0 then -1 else x) < 0; rw [if_neg h]; exact h))) hS hU⟩
    simp only [e89, s89_0, s89_0n, s89_1, s89_2, s89_5, s89_6, s89_9, s89_10, s89_13, s89_13n, s89_14, s89_15, s89_18, Option.bind_some, Option.bind_none, Option.toList_some, Option.toList_none, List.nil_append, List.cons_append, ↓reduceIte, reduceCtorEq, cl1_i, cl1_r, cl1_n, cl1_0, cl1_J, okS_0, okS_1, okS_2, okS_3, okS_4, bB_0, bB_and, z_0, z_1, z_10, bB_t, bB_f, Bool.true_eq_false, Bool.false_eq_true, gT0, gT1, gT2, gT3, gT4, gT5, gT6, gF0, gF1, gF2, gF3, gF4, gS0, gS1, gC0, gC1, iT, iF, iS, iC, sT6_0, sT6_1, sF2, sF3, sF4_0, sF4_1, sS1, sC1, gM0, gM1, gM2, gM3, gM4, gM5, gM6, gM7, gM8, gM9, gM10, gM11, gM12, gM13, gM14, gM15, gM16, gM17, gM18, iM, sM5, sM6, sM11, sM12, sM13, sM14, sM16, sM18, sM2_0, sM2_1, sM3_0, sM3_1, sM4_0, sM4_1, mS_0, mS_1, mS_2, mS_3, mS_4, mS_5, mS_6, mS_7, mS_8, mS_9, mS_10, mS_11, mS_12, mS_13, mS_14, mS_15, mS_16, mS_17, mS_18, decide_true, decide_false, Bool.not_true, Bool.not_false, h]
    simp only [mS, h, hne, Option.bind_some, Option.bind_none, Option.toList_some, Option.toList_none, List.nil_append, List.cons_append, ↓reduceIte, reduceCtorEq, cl1_i, cl1_r, cl1_n, cl1_0, cl1_J, okS_0, okS_1, okS_2, okS_3, okS_4, bB_0, bB_and, z_0, z_1, z_10, bB_t, bB_f, Bool.true_eq_false, Bool.false_eq_true, gT0, gT1, gT2, gT3, gT4, gT5, gT6, gF0, gF1, gF2, gF3, gF4, gS0, gS1, gC0, gC1, iT, iF, iS, iC, sT6_0, sT6_1, sF2, sF3, sF4_0, sF4_1, sS1, sC1, decide_false, Bool.not_false]
theorem B55 : Bo sc 55 90 [] := by
  rintro H ⟨f, s, c, th, be, qu, mt, li, jl, R, O, A, Lo, rfl, hX, hS, hU⟩
  refine ⟨some (.int (bB f.2.2.2.2)), (hp sc (fB f) s c th be qu (bB mt) li (hM (mS f mt jl R O A))), (hp sc (fB f) s c th be qu (bB mt) li (hM (mS f mt jl R O A))), ?_, ?_, mkI hX hS hU⟩
  · simp only [e55, s55_0, s55_0n, s55_1, s55_4, Option.bind_some, Option.bind_none, Option.toList_some, Option.toList_none, List.nil_append, List.cons_append, ↓reduceIte, reduceCtorEq, cl1_i, cl1_r, cl1_n, cl1_0, cl1_J, okS_0, okS_1, okS_2, okS_3, okS_4, bB_0, bB_and, z_0, z_1, z_10, bB_t, bB_f, Bool.true_eq_false, Bool.false_eq_true, gT0, gT1, gT2, gT3, gT4, gT5, gT6, gF0, gF1, gF2, gF3, gF4, gS0, gS1, gC0, gC1, iT, iF, iS, iC, sT6_0, sT6_1, sF2, sF3, sF4_0, sF4_1, sS1, sC1, c3]
    simp only [s55_7, Option.bind_some, Option.bind_none, Option.toList_some, Option.toList_none, List.nil_append, List.cons_append, ↓reduceIte, reduceCtorEq, cl1_i, cl1_r, cl1_n, cl1_0, cl1_J, okS_0, okS_1, okS_2, okS_3, okS_4, bB_0, bB_and, z_0, z_1, z_10, bB_t, bB_f, Bool.true_eq_false, Bool.false_eq_true, gT0, gT1, gT2, gT3, gT4, gT5, gT6, gF0, gF1, gF2, gF3, gF4, gS0, gS1, gC0, gC1, iT, iF, iS, iC, sT6_0, sT6_1, sF2, sF3, sF4_0, sF4_1, sS1, sC1]
  · simp only [e90, s90_0, s90_0n, s90_1, s90_4, Option.bind_some, Option.bind_none, Option.toList_some, Option.toList_none, List.nil_append, List.cons_append, ↓reduceIte, reduceCtorEq, cl1_i, cl1_r, cl1_n, cl1_0, cl1_J, okS_0, okS_1, okS_2, okS_3, okS_4, bB_0, bB_and, z_0, z_1, z_10, bB_t, bB_f, Bool.true_eq_false, Bool.false_eq_true, gT0, gT1, gT2, gT3, gT4, gT5, gT6, gF0, gF1, gF2, gF3, gF4, gS0, gS1, gC0, gC1, iT, iF, iS, iC, sT6_0, sT6_1, sF2, sF3, sF4_0, sF4_1, sS1, sC1, gM0, gM1, gM2, gM3, gM4, gM5, gM6, gM7, gM8, gM9, gM10, gM11, gM12, gM13, gM14, gM15, gM16, gM17, gM18, iM, sM5, sM6, sM11, sM12, sM13, sM14, sM16, sM18, sM2_0, sM2_1, sM3_0, sM3_1, sM4_0, sM4_1, mS_0, mS_1, mS_2, mS_3, mS_4, mS_5, mS_6, mS_7, mS_8, mS_9, mS_10, mS_11, mS_12, mS_13, mS_14, mS_15, mS_16, mS_17, mS_18, decide_true, decide_false, Bool.not_true, Bool.not_false]
theorem B56 : Bo sc 56 91 [] := by
  rintro H ⟨f, s, c, th, be, qu, mt, li, jl, R, O, A, Lo, rfl, hX, hS, hU⟩
  have hX2 : IX (f.1, f.2.1, f.2.2.1, f.2.2.2.1, false) Lo := ⟨hX.1, hX.2.1, fun q hq => PI.same (f := f) (fun o ho => rfl) (fun o ho => rfl) (hX.2.2 q hq)⟩
  refine ⟨none, (hp sc (fB ((f.1, f.2.1, f.2.2.1, f.2.2.2.1, false))) s c th be qu (bB (false)) li (hM (mS f mt jl R O A))), (hp sc (fB ((f.1, f.2.1, f.2.2.1, f.2.2.2.1, false))) s c th be qu (bB (false)) li (hM (mS ((f.1, f.2.1, f.2.2.1, f.2.2.2.1, false)) (false) jl R O A))), ?_, ?_, mkI hX2 hS (fun h => by cases h)⟩
  · simp only [e56, s56_0, s56_0n, s56_1, s56_4, Option.bind_some, Option.bind_none, Option.toList_some, Option.toList_none, List.nil_append, List.cons_append, ↓reduceIte, reduceCtorEq, cl1_i, cl1_r, cl1_n, cl1_0, cl1_J, okS_0, okS_1, okS_2, okS_3, okS_4, bB_0, bB_and, z_0, z_1, z_10, bB_t, bB_f, Bool.true_eq_false, Bool.false_eq_true, gT0, gT1, gT2, gT3, gT4, gT5, gT6, gF0, gF1, gF2, gF3, gF4, gS0, gS1, gC0, gC1, iT, iF, iS, iC, sT6_0, sT6_1, sF2, sF3, sF4_0, sF4_1, sS1, sC1, c2]
    simp only [s56_7, s56_7n, s56_8, s56_9, s56_12, Option.bind_some, Option.bind_none, Option.toList_some, Option.toList_none, List.nil_append, List.cons_append, ↓reduceIte, reduceCtorEq, cl1_i, cl1_r, cl1_n, cl1_0, cl1_J, okS_0, okS_1, okS_2, okS_3, okS_4, bB_0, bB_and, z_0, z_1, z_10, bB_t, bB_f, Bool.true_eq_false, Bool.false_eq_true, gT0, gT1, gT2, gT3, gT4, gT5, gT6, gF0, gF1, gF2, gF3, gF4, gS0, gS1, gC0, gC1, iT, iF, iS, iC, sT6_0, sT6_1, sF2, sF3, sF4_0, sF4_1, sS1, sC1]
  · simp only [e91, s91_0, s91_0n, s91_1, s91_2, s91_5, s91_5n, s91_6, s91_7, s91_10, Option.bind_some, Option.bind_none, Option.toList_some, Option.toList_none, List.nil_append, List.cons_append, ↓reduceIte, reduceCtorEq, cl1_i, cl1_r, cl1_n, cl1_0, cl1_J, okS_0, okS_1, okS_2, okS_3, okS_4, bB_0, bB_and, z_0, z_1, z_10, bB_t, bB_f, Bool.true_eq_false, Bool.false_eq_true, gT0, gT1, gT2, gT3, gT4, gT5, gT6, gF0, gF1, gF2, gF3, gF4, gS0, gS1, gC0, gC1, iT, iF, iS, iC, sT6_0, sT6_1, sF2, sF3, sF4_0, sF4_1, sS1, sC1, gM0, gM1, gM2, gM3, gM4, gM5, gM6, gM7, gM8, gM9, gM10, gM11, gM12, gM13, gM14, gM15, gM16, gM17, gM18, iM, sM5, sM6, sM11, sM12, sM13, sM14, sM16, sM18, sM2_0, sM2_1, sM3_0, sM3_1, sM4_0, sM4_1, mS_0, mS_1, mS_2, mS_3, mS_4, mS_5, mS_6, mS_7, mS_8, mS_9, mS_10, mS_11, mS_12, mS_13, mS_14, mS_15, mS_16, mS_17, mS_18, decide_true, decide_false, Bool.not_true, Bool.not_false]
    rfl
theorem B69 : Bo sc 69 127 [.int d, .int x] := by
  rintro H ⟨f, s, c, th, be, qu, mt, li, jl, R, O, A, Lo, rfl, hX, hS, hU⟩
  refine ⟨some (.int (pk f d x)), (hp sc (fB f) s c th be qu (bB mt) li (hM (mS f mt jl R O A))), (hp sc (fB f) s c th be qu (bB mt) li (hM (mS f mt jl R O A))), ?_, ?_, mkI hX hS hU⟩
  · simp only [e69, s69_0, s69_0n, s69_1, s69_4, s69_5, s69_6, Option.bind_some, Option.bind_none, Option.toList_some, Option.toList_none, List.nil_append, List.cons_append, ↓reduceIte, reduceCtorEq, cl1_i, cl1_r, cl1_n, cl1_0, cl1_J, okS_0, okS_1, okS_2, okS_3, okS_4, bB_0, bB_and, z_0, z_1, z_10, bB_t, bB_f, Bool.true_eq_false, Bool.false_eq_true, gT0, gT1, gT2, gT3, gT4, gT5, gT6, gF0, gF1, gF2, gF3, gF4, gS0, gS1, gC0, gC1, iT, iF, iS, iC, sT6_0, sT6_1, sF2, sF3, sF4_0, sF4_1, sS1, sC1, c6]
    simp only [s69_9, Option.bind_some, Option.bind_none, Option.toList_some, Option.toList_none, List.nil_append, List.cons_append, ↓reduceIte, reduceCtorEq, cl1_i, cl1_r, cl1_n, cl1_0, cl1_J, okS_0, okS_1, okS_2, okS_3, okS_4, bB_0, bB_and, z_0, z_1, z_10, bB_t, bB_f, Bool.true_eq_false, Bool.false_eq_true, gT0, gT1, gT2, gT3, gT4, gT5, gT6, gF0, gF1, gF2, gF3, gF4, gS0, gS1, gC0, gC1, iT, iF, iS, iC, sT6_0, sT6_1, sF2, sF3, sF4_0, sF4_1, sS1, sC1]
  · unfold pk
    by_cases h1 : d < 0
    · simp only [e127, s127_0, s127_1, s127_20, s127_21, s127_35, Option.bind_some, Option.bind_none, Option.toList_some, Option.toList_none, List.nil_append, List.cons_append, ↓reduceIte, reduceCtorEq, cl1_i, cl1_r, cl1_n, cl1_0, cl1_J, okS_0, okS_1, okS_2, okS_3, okS_4, bB_0, bB_and, z_0, z_1, z_10, bB_t, bB_f, Bool.true_eq_false, Bool.false_eq_true, gT0, gT1, gT2, gT3, gT4, gT5, gT6, gF0, gF1, gF2, gF3, gF4, gS0, gS1, gC0, gC1, iT, iF, iS, iC, sT6_0, sT6_1, sF2, sF3, sF4_0, sF4_1, sS1, sC1, h1, inB_f1 (n := 16) h1, false_and]
    · obtain ⟨b, hb, rfl⟩ := nI_of h1
      by_cases h2 : b < 16
      · have h3 : ¬ 15 < nI b := nI_nlt (a := 15) (by omega) (by decide)
        by_cases h4 : x < 0
        · simp only [e127, s127_0, s127_1, s127_4, s127_5, s127_7, s127_10, s127_11, s127_20, s127_21, s127_35, Option.bind_some, Option.bind_none, Option.toList_some, Option.toList_none, List.nil_append, List.cons_append, ↓reduceIte, reduceCtorEq, cl1_i, cl1_r, cl1_n, cl1_0, cl1_J, okS_0, okS_1, okS_2, okS_3, okS_4, bB_0, bB_and, z_0, z_1, z_10, bB_t, bB_f, Bool.true_eq_false, Bool.false_eq_true, gT0, gT1, gT2, gT3, gT4, gT5, gT6, gF0, gF1, gF2, gF3, gF4, gS0, gS1, gC0, gC1, iT, iF, iS, iC, sT6_0, sT6_1, sF2, sF3, sF4_0, sF4_1, sS1, sC1, h1, h3, h4, inB_f1 (n := 64) h4, and_false]
        · obtain ⟨o, ho, rfl⟩ := nI_of h4
          by_cases h5 : o < 64
          · have h6 : ¬ 63 < nI o := nI_nlt (a := 63) (by omega) (by decide)
            have hi : inB (nI (b * 64 + o)) 1024 = true := inB_nI (by omega) (by decide)
            simp only [e127, s127_0, s127_1, s127_4, s127_5, s127_7, s127_10, s127_11, s127_14, s127_15, s127_17, s127_24, s127_24n, s127_25, s127_28, s127_30, s127_31, s127_32, s127_33, s127_34, s127_35, Option.bind_some, Option.bind_none, Option.toList_some, Option.toList_none, List.nil_append, List.cons_append, ↓reduceIte, reduceCtorEq, cl1_i, cl1_r, cl1_n, cl1_0, cl1_J, okS_0, okS_1, okS_2, okS_3, okS_4, bB_0, bB_and, z_0, z_1, z_10, bB_t, bB_f, Bool.true_eq_false, Bool.false_eq_true, gT0, gT1, gT2, gT3, gT4, gT5, gT6, gF0, gF1, gF2, gF3, gF4, gS0, gS1, gC0, gC1, iT, iF, iS, iC, sT6_0, sT6_1, sF2, sF3, sF4_0, sF4_1, sS1, sC1, gM0, gM1, gM2, gM3, gM4, gM5, gM6, gM7, gM8, gM9, gM10, gM11, gM12, gM13, gM14, gM15, gM16, gM17, gM18, iM, sM5, sM6, sM11, sM12, sM13, sM14, sM16, sM18, sM2_0, sM2_1, sM3_0, sM3_1, sM4_0, sM4_1, mS_0, mS_1, mS_2, mS_3, mS_4, mS_5, mS_6, mS_7, mS_8, mS_9, mS_10, mS_11, mS_12, mS_13, mS_14, mS_15, mS_16, mS_17, mS_18, decide_true, decide_false, Bool.not_true, Bool.not_false, h1, h3, h4, h6, inB_nI h2 (show 16 < 2 ^ 31 by decide), inB_nI h5 (show 64 < 2 ^ 31 by decide), ix2, a62 hi, nI_clamp hb, nI_clamp ho, nI_clamp (show b * 64 + o < 2 ^ 31 by omega), and_self]
          · have h6 : 63 < nI o := nI_lt (a := 63) (by omega) ho
            simp only [e127, s127_0, s127_1, s127_4, s127_5, s127_7, s127_10, s127_11, s127_14, s127_15, s127_17, s127_20, s127_21, s127_35, Option.bind_some, Option.bind_none, Option.toList_some, Option.toList_none, List.nil_append, List.cons_append, ↓reduceIte, reduceCtorEq, cl1_i, cl1_r, cl1_n, cl1_0, cl1_J, okS_0, okS_1, okS_2, okS_3, okS_4, bB_0, bB_and, z_0, z_1, z_10, bB_t, bB_f, Bool.true_eq_false, Bool.false_eq_true, gT0, gT1, gT2, gT3, gT4, gT5, gT6, gF0, gF1, gF2, gF3, gF4, gS0, gS1, gC0, gC1, iT, iF, iS, iC, sT6_0, sT6_1, sF2, sF3, sF4_0, sF4_1, sS1, sC1, h1, h3, h4, h6, inB_no (show 64 ≤ o by omega) ho, and_false]
      · have h3 : 15 < nI b := nI_lt (a := 15) (by omega) hb
        simp only [e127, s127_0, s127_1, s127_4, s127_5, s127_7, s127_20, s127_21, s127_35, Option.bind_some, Option.bind_none, Option.toList_some, Option.toList_none, List.nil_append, List.cons_append, ↓reduceIte, reduceCtorEq, cl1_i, cl1_r, cl1_n, cl1_0, cl1_J, okS_0, okS_1, okS_2, okS_3, okS_4, bB_0, bB_and, z_0, z_1, z_10, bB_t, bB_f, Bool.true_eq_false, Bool.false_eq_true, gT0, gT1, gT2, gT3, gT4, gT5, gT6, gF0, gF1, gF2, gF3, gF4, gS0, gS1, gC0, gC1, iT, iF, iS, iC, sT6_0, sT6_1, sF2, sF3, sF4_0, sF4_1, sS1, sC1, h1, h3, inB_no (show 16 ≤ b by omega) hb, false_and]
theorem B70 : Bo sc 70 128 [.int d] := by
  rintro H ⟨f, s, c, th, be, qu, mt, li, jl, R, O, A, Lo, rfl, hX, hS, hU⟩
  refine ⟨some (.int (if inB d 16 = true then f.2.1 d.toNatClampNeg else -1)), (hp sc (fB f) s c th be qu (bB mt) li (hM (mS f mt jl R O A))), (hp sc (fB f) s c th be qu (bB mt) li (hM (mS f mt jl R O A))), ?_, ?_, mkI hX hS hU⟩
  · simp only [e70, s70_0, s70_0n, s70_1, s70_4, s70_5, Option.bind_some, Option.bind_none, Option.toList_some, Option.toList_none, List.nil_append, List.cons_append, ↓reduceIte, reduceCtorEq, cl1_i, cl1_r, cl1_n, cl1_0, cl1_J, okS_0, okS_1, okS_2, okS_3, okS_4, bB_0, bB_and, z_0, z_1, z_10, bB_t, bB_f, Bool.true_eq_false, Bool.false_eq_true, gT0, gT1, gT2, gT3, gT4, gT5, gT6, gF0, gF1, gF2, gF3, gF4, gS0, gS1, gC0, gC1, iT, iF, iS, iC, sT6_0, sT6_1, sF2, sF3, sF4_0, sF4_1, sS1, sC1, c5]
    simp only [s70_8, Option.bind_some, Option.bind_none, Option.toList_some, Option.toList_none, List.nil_append, List.cons_append, ↓reduceIte, reduceCtorEq, cl1_i, cl1_r, cl1_n, cl1_0, cl1_J, okS_0, okS_1, okS_2, okS_3, okS_4, bB_0, bB_and, z_0, z_1, z_10, bB_t, bB_f, Bool.true_eq_false, Bool.false_eq_true, gT0, gT1, gT2, gT3, gT4, gT5, gT6, gF0, gF1, gF2, gF3, gF4, gS0, gS1, gC0, gC1, iT, iF, iS, iC, sT6_0, sT6_1, sF2, sF3, sF4_0, sF4_1, sS1, sC1]
  · by_cases h1 : d < 0
    · simp only [e128, s128_0, s128_1, s128_10, s128_11, s128_20, Option.bind_some, Option.bind_none, Option.toList_some, Option.toList_none, List.nil_append, List.cons_append, ↓reduceIte, reduceCtorEq, cl1_i, cl1_r, cl1_n, cl1_0, cl1_J, okS_0, okS_1, okS_2, okS_3, okS_4, bB_0, bB_and, z_0, z_1, z_10, bB_t, bB_f, Bool.true_eq_false, Bool.false_eq_true, gT0, gT1, gT2, gT3, gT4, gT5, gT6, gF0, gF1, gF2, gF3, gF4, gS0, gS1, gC0, gC1, iT, iF, iS, iC, sT6_0, sT6_1, sF2, sF3, sF4_0, sF4_1, sS1, sC1, h1, inB_f1 (n := 16) h1]
    · obtain ⟨b, hb, rfl⟩ := nI_of h1
      by_cases h2 : b < 16
      · have h3 : ¬ 15 < nI b := nI_nlt (a := 15) (by omega) (by decide)
        have hi : inB (nI b) 16 = true := inB_nI h2 (by decide)
        simp only [e128, s128_0, s128_1, s128_4, s128_5, s128_7, s128_14, s128_14n, s128_15, s128_18, s128_19, s128_20, Option.bind_some, Option.bind_none, Option.toList_some, Option.toList_none, List.nil_append, List.cons_append, ↓reduceIte, reduceCtorEq, cl1_i, cl1_r, cl1_n, cl1_0, cl1_J, okS_0, okS_1, okS_2, okS_3, okS_4, bB_0, bB_and, z_0, z_1, z_10, bB_t, bB_f, Bool.true_eq_false, Bool.false_eq_true, gT0, gT1, gT2, gT3, gT4, gT5, gT6, gF0, gF1, gF2, gF3, gF4, gS0, gS1, gC0, gC1, iT, iF, iS, iC, sT6_0, sT6_1, sF2, sF3, sF4_0, sF4_1, sS1, sC1, gM0, gM1, gM2, gM3, gM4, gM5, gM6, gM7, gM8, gM9, gM10, gM11, gM12, gM13, gM14, gM15, gM16, gM17, gM18, iM, sM5, sM6, sM11, sM12, sM13, sM14, sM16, sM18, sM2_0, sM2_1, sM3_0, sM3_1, sM4_0, sM4_1, mS_0, mS_1, mS_2, mS_3, mS_4, mS_5, mS_6, mS_7, mS_8, mS_9, mS_10, mS_11, mS_12, mS_13, mS_14, mS_15, mS_16, mS_17, mS_18, decide_true, decide_false, Bool.not_true, Bool.not_false, h1, h3, hi, a63 hi, nI_clamp hb]
      · have h3 : 15 < nI b := nI_lt (a := 15) (by omega) hb
        simp only [e128, s128_0, s128_1, s128_4, s128_5, s128_7, s128_10, s128_11, s128_20, Option.bind_some, Option.bind_none, Option.toList_some, Option.toList_none, List.nil_append, List.cons_append, ↓reduceIte, reduceCtorEq, cl1_i, cl1_r, cl1_n, cl1_0, cl1_J, okS_0, okS_1, okS_2, okS_3, okS_4, bB_0, bB_and, z_0, z_1, z_10, bB_t, bB_f, Bool.true_eq_false, Bool.false_eq_true, gT0, gT1, gT2, gT3, gT4, gT5, gT6, gF0, gF1, gF2, gF3, gF4, gS0, gS1, gC0, gC1, iT, iF, iS, iC, sT6_0, sT6_1, sF2, sF3, sF4_0, sF4_1, sS1, sC1, h1, h3, inB_no (show 16 ≤ b by omega) hb]
theorem B71 : Bo sc 71 129 [] := by
  rintro H ⟨f, s, c, th, be, qu, mt, li, jl, R, O, A, Lo, rfl, hX, hS, hU⟩
  refine ⟨some (.int f.2.2.1), (hp sc (fB f) s c th be qu (bB mt) li (hM (mS f mt jl R O A))), (hp sc (fB f) s c th be qu (bB mt) li (hM (mS f mt jl R O A))), ?_, ?_, mkI hX hS hU⟩
  · simp only [e71, s71_0, s71_0n, s71_1, s71_4, Option.bind_some, Option.bind_none, Option.toList_some, Option.toList_none, List.nil_append, List.cons_append, ↓reduceIte, reduceCtorEq, cl1_i, cl1_r, cl1_n, cl1_0, cl1_J, okS_0, okS_1, okS_2, okS_3, okS_4, bB_0, bB_and, z_0, z_1, z_10, bB_t, bB_f, Bool.true_eq_false, Bool.false_eq_true, gT0, gT1, gT2, gT3, gT4, gT5, gT6, gF0, gF1, gF2, gF3, gF4, gS0, gS1, gC0, gC1, iT, iF, iS, iC, sT6_0, sT6_1, sF2, sF3, sF4_0, sF4_1, sS1, sC1, c4]
    simp only [s71_7, Option.bind_some, Option.bind_none, Option.toList_some, Option.toList_none, List.nil_append, List.cons_append, ↓reduceIte, reduceCtorEq, cl1_i, cl1_r, cl1_n, cl1_0, cl1_J, okS_0, okS_1, okS_2, okS_3, okS_4, bB_0, bB_and, z_0, z_1, z_10, bB_t, bB_f, Bool.true_eq_false, Bool.false_eq_true, gT0, gT1, gT2, gT3, gT4, gT5, gT6, gF0, gF1, gF2, gF3, gF4, gS0, gS1, gC0, gC1, iT, iF, iS, iC, sT6_0, sT6_1, sF2, sF3, sF4_0, sF4_1, sS1, sC1]
  · simp only [e129, s129_0, s129_0n, s129_1, s129_4, Option.bind_some, Option.bind_none, Option.toList_some, Option.toList_none, List.nil_append, List.cons_append, ↓reduceIte, reduceCtorEq, cl1_i, cl1_r, cl1_n, cl1_0, cl1_J, okS_0, okS_1, okS_2, okS_3, okS_4, bB_0, bB_and, z_0, z_1, z_10, bB_t, bB_f, Bool.true_eq_false, Bool.false_eq_true, gT0, gT1, gT2, gT3, gT4, gT5, gT6, gF0, gF1, gF2, gF3, gF4, gS0, gS1, gC0, gC1, iT, iF, iS, iC, sT6_0, sT6_1, sF2, sF3, sF4_0, sF4_1, sS1, sC1, gM0, gM1, gM2, gM3, gM4, gM5, gM6, gM7, gM8, gM9, gM10, gM11, gM12, gM13, gM14, gM15, gM16, gM17, gM18, iM, sM5, sM6, sM11, sM12, sM13, sM14, sM16, sM18, sM2_0, sM2_1, sM3_0, sM3_1, sM4_0, sM4_1, mS_0, mS_1, mS_2, mS_3, mS_4, mS_5, mS_6, mS_7, mS_8, mS_9, mS_10, mS_11, mS_12, mS_13, mS_14, mS_15, mS_16, mS_17, mS_18, decide_true, decide_false, Bool.not_true, Bool.not_false]
def cntF (s : Nat) : Nat → Nat → Nat
  | 0, _ => 0
  | n + 1, q => (if s.testBit q = true then 0 else 1) + cntF s n (q + 1)
theorem f68 {F : FlS} {s c : OpS} {th be qu : Nat → Int32} {li : Nat → LiS} {mm : AH} {Lo : LO} (hT : ThS Lo th) : ∀ (n q k : Nat), q + n = 8 → Run 68 16 [some (.ref 1), some (.int (nI k)), some (.int (nI q))] [] (hp sc (F) s c th be qu (1) li mm) = some (some (.int (nI (k + cntF (froS (lsO Lo) 0) n q))), (hp sc (F) s c th be qu (1) li mm)) := by
  intro n
  induction n with
  | zero =>
    intro q k h
    obtain rfl : q = 8 := by omega
    have h3 : ¬ nI 8 < 8 := by decide
    simp only [s68_16, s68_17, s68_19, s68_40, s68_41, Option.bind_some, Option.bind_none, Option.toList_some, Option.toList_none, List.nil_append, List.cons_append, ↓reduceIte, reduceCtorEq, cl1_i, cl1_r, cl1_n, cl1_0, cl1_J, okS_0, okS_1, okS_2, okS_3, okS_4, bB_0, bB_and, z_0, z_1, z_10, bB_t, bB_f, Bool.true_eq_false, Bool.false_eq_true, gT0, gT1, gT2, gT3, gT4, gT5, gT6, gF0, gF1, gF2, gF3, gF4, gS0, gS1, gC0, gC1, iT, iF, iS, iC, sT6_0, sT6_1, sF2, sF3, sF4_0, sF4_1, sS1, sC1, h3, cntF, Nat.add_zero]
  | succ n ih =>
    intro q k h
    have hq : q < 8 := by omega
    have h3 : nI q < 8 := nI_lit (k := 8) hq (by decide)
    have hi : inB (nI q) 8 = true := inB_nI hq (by decide)
    rw [s68_16]
    simp only [s68_17, s68_19, s68_22, s68_22n, s68_23, s68_26, s68_27, Option.bind_some, Option.bind_none, Option.toList_some, Option.toList_none, List.nil_append, List.cons_append, ↓reduceIte, reduceCtorEq, cl1_i, cl1_r, cl1_n, cl1_0, cl1_J, okS_0, okS_1, okS_2, okS_3, okS_4, bB_0, bB_and, z_0, z_1, z_10, bB_t, bB_f, Bool.true_eq_false, Bool.false_eq_true, gT0, gT1, gT2, gT3, gT4, gT5, gT6, gF0, gF1, gF2, gF3, gF4, gS0, gS1, gC0, gC1, iT, iF, iS, iC, sT6_0, sT6_1, sF2, sF3, sF4_0, sF4_1, sS1, sC1, h3, a8 hi, nI_clamp (show q < 2 ^ 31 by omega), hT q hq]
    unfold cntF
    cases hb : (froS (lsO Lo) 0).testBit q with
    | true =>
      simp only [s68_28, s68_34, s68_37, Option.bind_some, Option.bind_none, Option.toList_some, Option.toList_none, List.nil_append, List.cons_append, ↓reduceIte, reduceCtorEq, cl1_i, cl1_r, cl1_n, cl1_0, cl1_J, okS_0, okS_1, okS_2, okS_3, okS_4, bB_0, bB_and, z_0, z_1, z_10, bB_t, bB_f, Bool.true_eq_false, Bool.false_eq_true, gT0, gT1, gT2, gT3, gT4, gT5, gT6, gF0, gF1, gF2, gF3, gF4, gS0, gS1, gC0, gC1, iT, iF, iS, iC, sT6_0, sT6_1, sF2, sF3, sF4_0, sF4_1, sS1, sC1, nI_1, Nat.zero_add]
      exact ih (q + 1) k (by omega)
    | false =>
      simp only [s68_28, s68_31, s68_34, s68_37, Option.bind_some, Option.bind_none, Option.toList_some, Option.toList_none, List.nil_append, List.cons_append, ↓reduceIte, reduceCtorEq, cl1_i, cl1_r, cl1_n, cl1_0, cl1_J, okS_0, okS_1, okS_2, okS_3, okS_4, bB_0, bB_and, z_0, z_1, z_10, bB_t, bB_f, Bool.true_eq_false, Bool.false_eq_true, gT0, gT1, gT2, gT3, gT4, gT5, gT6, gF0, gF1, gF2, gF3, gF4, gS0, gS1, gC0, gC1, iT, iF, iS, iC, sT6_0, sT6_1, sF2, sF3, sF4_0, sF4_1, sS1, sC1, nI_1, ← Nat.add_assoc]
      exact ih (q + 1) (k + 1) (by omega)
theorem f126 {sc : AC} {F : FlS} {s c : OpS} {th be qu : Nat → Int32} {mo : Int32} {li : Nat → LiS} {f : FB} {mt : Bool} {jl : Int32} {R : RgS} {O A : OpS} {s0 : Nat} (hs : s0 < 256) : ∀ (n q k : Nat), q + n = 8 → Run 126 22 [some (.ref 61), some (.int (nI s0)), some (.int (nI k)), some (.int (nI q))] [] (hp sc F s c th be qu mo li (hM (mS f mt jl R O A))) = some (some (.int (nI (k + cntF s0 n q))), (hp sc F s c th be qu mo li (hM (mS f mt jl R O A)))) := by
  intro n
  induction n with
  | zero =>
    intro q k h
    obtain rfl : q = 8 := by omega
    have h3 : ¬ nI 8 < 8 := by decide
    simp only [s126_22, s126_23, s126_25, s126_44, s126_45, Option.bind_some, Option.bind_none, Option.toList_some, Option.toList_none, List.nil_append, List.cons_append, ↓reduceIte, reduceCtorEq, cl1_i, cl1_r, cl1_n, cl1_0, cl1_J, okS_0, okS_1, okS_2, okS_3, okS_4, bB_0, bB_and, z_0, z_1, z_10, bB_t, bB_f, Bool.true_eq_false, Bool.false_eq_true, gT0, gT1, gT2, gT3, gT4, gT5, gT6, gF0, gF1, gF2, gF3, gF4, gS0, gS1, gC0, gC1, iT, iF, iS, iC, sT6_0, sT6_1, sF2, sF3, sF4_0, sF4_1, sS1, sC1, h3, cntF, Nat.add_zero]
  | succ n ih =>
    intro q k h
    have hq : q < 8 := by omega
    have h3 : nI q < 8 := nI_lit (k := 8) hq (by decide)
    rw [s126_22]
    simp only [s126_23, s126_25, s126_28, s126_29, s126_30, s126_31, s126_32, s126_33, s126_34, Option.bind_some, Option.bind_none, Option.toList_some, Option.toList_none, List.nil_append, List.cons_append, ↓reduceIte, reduceCtorEq, cl1_i, cl1_r, cl1_n, cl1_0, cl1_J, okS_0, okS_1, okS_2, okS_3, okS_4, bB_0, bB_and, z_0, z_1, z_10, bB_t, bB_f, Bool.true_eq_false, Bool.false_eq_true, gT0, gT1, gT2, gT3, gT4, gT5, gT6, gF0, gF1, gF2, gF3, gF4, gS0, gS1, gC0, gC1, iT, iF, iS, iC, sT6_0, sT6_1, sF2, sF3, sF4_0, sF4_1, sS1, sC1, h3, tst_bit _ hs _ hq]
    unfold cntF
    cases hb : s0.testBit q with
    | true =>
      have e1 : nI k + (1 - 1) = nI k := by
        rw [show (1 : Int32) - 1 = nI 0 by decide, nI_add, Nat.add_zero]
      simp only [s126_35, s126_36, s126_37, s126_38, s126_41, Option.bind_some, Option.bind_none, Option.toList_some, Option.toList_none, List.nil_append, List.cons_append, ↓reduceIte, reduceCtorEq, cl1_i, cl1_r, cl1_n, cl1_0, cl1_J, okS_0, okS_1, okS_2, okS_3, okS_4, bB_0, bB_and, z_0, z_1, z_10, bB_t, bB_f, Bool.true_eq_false, Bool.false_eq_true, gT0, gT1, gT2, gT3, gT4, gT5, gT6, gF0, gF1, gF2, gF3, gF4, gS0, gS1, gC0, gC1, iT, iF, iS, iC, sT6_0, sT6_1, sF2, sF3, sF4_0, sF4_1, sS1, sC1, nI_1, e1, Nat.zero_add]
      exact ih (q + 1) k (by omega)
    | false =>
      have e1 : nI k + (1 - 0) = nI (k + 1) := by
        rw [show (1 : Int32) - 0 = 1 by decide, nI_1]
      simp only [s126_35, s126_36, s126_37, s126_38, s126_41, Option.bind_some, Option.bind_none, Option.toList_some, Option.toList_none, List.nil_append, List.cons_append, ↓reduceIte, reduceCtorEq, cl1_i, cl1_r, cl1_n, cl1_0, cl1_J, okS_0, okS_1, okS_2, okS_3, okS_4, bB_0, bB_and, z_0, z_1, z_10, bB_t, bB_f, Bool.true_eq_false, Bool.false_eq_true, gT0, gT1, gT2, gT3, gT4, gT5, gT6, gF0, gF1, gF2, gF3, gF4, gS0, gS1, gC0, gC1, iT, iF, iS, iC, sT6_0, sT6_1, sF2, sF3, sF4_0, sF4_1, sS1, sC1, nI_1, e1, ← Nat.add_assoc]
      exact ih (q + 1) (k + 1) (by omega)
theorem B68 : Bo sc 68 126 [] := by
  rintro H ⟨f, s, c, th, be, qu, mt, li, jl, R, O, A, Lo, rfl, hX, hS, hU⟩
  cases mt with
  | false =>
    refine ⟨some (.int (refu f false)), (hp sc (fB f) s c th be qu (bB (false)) li (hM (mS f (false) jl R O A))), (hp sc (fB f) s c th be qu (bB (false)) li (hM (mS f (false) jl R O A))), ?_, ?_, mkI hX hS hU⟩
    · simp only [e68, s68_0, s68_0n, s68_1, s68_4, s68_7, s68_7n, s68_8, Option.bind_some, Option.bind_none, Option.toList_some, Option.toList_none, List.nil_append, List.cons_append, ↓reduceIte, reduceCtorEq, cl1_i, cl1_r, cl1_n, cl1_0, cl1_J, okS_0, okS_1, okS_2, okS_3, okS_4, bB_0, bB_and, z_0, z_1, z_10, bB_t, bB_f, Bool.true_eq_false, Bool.false_eq_true, gT0, gT1, gT2, gT3, gT4, gT5, gT6, gF0, gF1, gF2, gF3, gF4, gS0, gS1, gC0, gC1, iT, iF, iS, iC, sT6_0, sT6_1, sF2, sF3, sF4_0, sF4_1, sS1, sC1, c72r (f := f) (mt := false)]
      have := c72r (sc := sc) (f := f) (s := s) (c := c) (th := th) (be := be) (qu := qu) (li := li) (mm := hM (mS f false jl R O A)) (mt := false)
      rw [show bB false = 0 from rfl] at this
      simp only [this, s68_11, Option.bind_some, Option.bind_none, Option.toList_some, Option.toList_none, List.nil_append, List.cons_append, ↓reduceIte, reduceCtorEq, cl1_i, cl1_r, cl1_n, cl1_0, cl1_J, okS_0, okS_1, okS_2, okS_3, okS_4, bB_0, bB_and, z_0, z_1, z_10, bB_t, bB_f, Bool.true_eq_false, Bool.false_eq_true, gT0, gT1, gT2, gT3, gT4, gT5, gT6, gF0, gF1, gF2, gF3, gF4, gS0, gS1, gC0, gC1, iT, iF, iS, iC, sT6_0, sT6_1, sF2, sF3, sF4_0, sF4_1, sS1, sC1]
    · rw [← rdy_refu rfl]
      simp only [e126, s126_0, s126_0n, s126_1, s126_4, s126_7, s126_7n, s126_8, Option.bind_some, Option.bind_none, Option.toList_some, Option.toList_none, List.nil_append, List.cons_append, ↓reduceIte, reduceCtorEq, cl1_i, cl1_r, cl1_n, cl1_0, cl1_J, okS_0, okS_1, okS_2, okS_3, okS_4, bB_0, bB_and, z_0, z_1, z_10, bB_t, bB_f, Bool.true_eq_false, Bool.false_eq_true, gT0, gT1, gT2, gT3, gT4, gT5, gT6, gF0, gF1, gF2, gF3, gF4, gS0, gS1, gC0, gC1, iT, iF, iS, iC, sT6_0, sT6_1, sF2, sF3, sF4_0, sF4_1, sS1, sC1, gM0, gM1, gM2, gM3, gM4, gM5, gM6, gM7, gM8, gM9, gM10, gM11, gM12, gM13, gM14, gM15, gM16, gM17, gM18, iM, sM5, sM6, sM11, sM12, sM13, sM14, sM16, sM18, sM2_0, sM2_1, sM3_0, sM3_1, sM4_0, sM4_1, mS_0, mS_1, mS_2, mS_3, mS_4, mS_5, mS_6, mS_7, mS_8, mS_9, mS_10, mS_11, mS_12, mS_13, mS_14, mS_15, mS_16, mS_17, mS_18, decide_true, decide_false, Bool.not_true, Bool.not_false, c110r, rdy_neg (f := f) (mt := false) rfl]
      simp only [s126_11, Option.bind_some, Option.bind_none, Option.toList_some, Option.toList_none, List.nil_append, List.cons_append, ↓reduceIte, reduceCtorEq, cl1_i, cl1_r, cl1_n, cl1_0, cl1_J, okS_0, okS_1, okS_2, okS_3, okS_4, bB_0, bB_and, z_0, z_1, z_10, bB_t, bB_f, Bool.true_eq_false, Bool.false_eq_true, gT0, gT1, gT2, gT3, gT4, gT5, gT6, gF0, gF1, gF2, gF3, gF4, gS0, gS1, gC0, gC1, iT, iF, iS, iC, sT6_0, sT6_1, sF2, sF3, sF4_0, sF4_1, sS1, sC1]
  | true =>
    obtain ⟨hd, h0, hno, hA, hT⟩ := hU rfl
    obtain ⟨R', r1⟩ := c108q (sc := sc) (F := fB f) (s := s) (c := c) (th := th) (be := be) (qu := qu) (mo := 1) (li := li) (f := f) (mt := true) (jl := jl) (R := R) (O := O) (A := A) hX (a := 0) (by decide)
    rw [nI_0] at r1
    refine ⟨some (.int (nI (0 + cntF (froS (lsO Lo) 0) 8 0))), hp sc (fB f) s c th be qu 1 li (hM (mS f true jl R O A)), hp sc (fB f) s c th be qu (bB true) li (hM (mS f true jl R' O A)), ?_, ?_, mkI hX hS hU⟩
    · have := f68 (sc := sc) (F := fB f) (s := s) (c := c) (be := be) (qu := qu) (li := li) (mm := hM (mS f true jl R O A)) hT 8 0 0 rfl
      rw [← this, nI_0]
      simp only [e68, s68_0, s68_0n, s68_1, s68_4, s68_12, s68_13, s68_14, s68_15, Option.bind_some, Option.bind_none, Option.toList_some, Option.toList_none, List.nil_append, List.cons_append, ↓reduceIte, reduceCtorEq, cl1_i, cl1_r, cl1_n, cl1_0, cl1_J, okS_0, okS_1, okS_2, okS_3, okS_4, bB_0, bB_and, z_0, z_1, z_10, bB_t, bB_f, Bool.true_eq_false, Bool.false_eq_true, gT0, gT1, gT2, gT3, gT4, gT5, gT6, gF0, gF1, gF2, gF3, gF4, gS0, gS1, gC0, gC1, iT, iF, iS, iC, sT6_0, sT6_1, sF2, sF3, sF4_0, sF4_1, sS1, sC1]
    · have := f126 (sc := sc) (F := fB f) (s := s) (c := c) (th := th) (be := be) (qu := qu) (mo := 1) (li := li) (f := f) (mt := true) (jl := jl) (R := R') (O := O) (A := A) (hX.rc (a := 0) (by decide)).1 8 0 0 rfl
      rw [nI_0] at this
      refine Eq.trans ?_ this
      simp only [e126, s126_0, s126_0n, s126_1, s126_4, s126_7, s126_7n, s126_8, s126_11, s126_12, s126_12n, s126_13, Option.bind_some, Option.bind_none, Option.toList_some, Option.toList_none, List.nil_append, List.cons_append, ↓reduceIte, reduceCtorEq, cl1_i, cl1_r, cl1_n, cl1_0, cl1_J, okS_0, okS_1, okS_2, okS_3, okS_4, bB_0, bB_and, z_0, z_1, z_10, bB_t, bB_f, Bool.true_eq_false, Bool.false_eq_true, gT0, gT1, gT2, gT3, gT4, gT5, gT6, gF0, gF1, gF2, gF3, gF4, gS0, gS1, gC0, gC1, iT, iF, iS, iC, sT6_0, sT6_1, sF2, sF3, sF4_0, sF4_1, sS1, sC1, gM0, gM1, gM2, gM3, gM4, gM5, gM6, gM7, gM8, gM9, gM10, gM11, gM12, gM13, gM14, gM15, gM16, gM17, gM18, iM, sM5, sM6, sM11, sM12, sM13, sM14, sM16, sM18, sM2_0, sM2_1, sM3_0, sM3_1, sM4_0, sM4_1, mS_0, mS_1, mS_2, mS_3, mS_4, mS_5, mS_6, mS_7, mS_8, mS_9, mS_10, mS_11, mS_12, mS_13, mS_14, mS_15, mS_16, mS_17, mS_18, decide_true, decide_false, Bool.not_true, Bool.not_false, c110r, rdy_t hd, z00]
      simp only [s126_14, s126_17, s126_18, s126_19, s126_20, s126_21, Option.bind_some, Option.bind_none, Option.toList_some, Option.toList_none, List.nil_append, List.cons_append, ↓reduceIte, reduceCtorEq, cl1_i, cl1_r, cl1_n, cl1_0, cl1_J, okS_0, okS_1, okS_2, okS_3, okS_4, bB_0, bB_and, z_0, z_1, z_10, bB_t, bB_f, Bool.true_eq_false, Bool.false_eq_true, gT0, gT1, gT2, gT3, gT4, gT5, gT6, gF0, gF1, gF2, gF3, gF4, gS0, gS1, gC0, gC1, iT, iF, iS, iC, sT6_0, sT6_1, sF2, sF3, sF4_0, sF4_1, sS1, sC1, gM0, gM1, gM2, gM3, gM4, gM5, gM6, gM7, gM8, gM9, gM10, gM11, gM12, gM13, gM14, gM15, gM16, gM17, gM18, iM, sM5, sM6, sM11, sM12, sM13, sM14, sM16, sM18, sM2_0, sM2_1, sM3_0, sM3_1, sM4_0, sM4_1, mS_0, mS_1, mS_2, mS_3, mS_4, mS_5, mS_6, mS_7, mS_8, mS_9, mS_10, mS_11, mS_12, mS_13, mS_14, mS_15, mS_16, mS_17, mS_18, decide_true, decide_false, Bool.not_true, Bool.not_false, r1]
end BOTH
section FMT
variable {sc : AC}
theorem B57 : Bo sc 57 112 [] := by
  rintro H ⟨f, s, c, th, be, qu, mt, li, jl, R, O, A, Lo, rfl, hX, hS, hU⟩
  cases hd : f.2.2.2.2 with
  | true =>
    have hmt : mt = false := by
      cases mt with
      | false => rfl
      | true => have := (hU rfl).1; rw [hd] at this; cases this
    subst hmt
    refine ⟨some (.int (-9)), (hp sc (fB f) s c th be qu (bB (false)) li (hM (mS f (false) jl R O A))), (hp sc (fB f) s c th be qu (bB (false)) li (hM (mS f (false) jl R O A))), ?_, ?_, mkI hX hS hU⟩
    · simp only [e57, s57_0, s57_0n, s57_1, s57_2, s57_5, s57_5n, s57_6, s57_9, Option.bind_some, Option.bind_none, Option.toList_some, Option.toList_none, List.nil_append, List.cons_append, ↓reduceIte, reduceCtorEq, cl1_i, cl1_r, cl1_n, cl1_0, cl1_J, okS_0, okS_1, okS_2, okS_3, okS_4, bB_0, bB_and, z_0, z_1, z_10, bB_t, bB_f, Bool.true_eq_false, Bool.false_eq_true, gT0, gT1, gT2, gT3, gT4, gT5, gT6, gF0, gF1, gF2, gF3, gF4, gS0, gS1, gC0, gC1, iT, iF, iS, iC, sT6_0, sT6_1, sF2, sF3, sF4_0, sF4_1, sS1, sC1, c3, hd]
      simp only [s57_12, s57_15, s57_17, Option.bind_some, Option.bind_none, Option.toList_some, Option.toList_none, List.nil_append, List.cons_append, ↓reduceIte, reduceCtorEq, cl1_i, cl1_r, cl1_n, cl1_0, cl1_J, okS_0, okS_1, okS_2, okS_3, okS_4, bB_0, bB_and, z_0, z_1, z_10, bB_t, bB_f, Bool.true_eq_false, Bool.false_eq_true, gT0, gT1, gT2, gT3, gT4, gT5, gT6, gF0, gF1, gF2, gF3, gF4, gS0, gS1, gC0, gC1, iT, iF, iS, iC, sT6_0, sT6_1, sF2, sF3, sF4_0, sF4_1, sS1, sC1]
    · simp only [e112, s112_0, s112_0n, s112_1, s112_4, s112_7, s112_9, Option.bind_some, Option.bind_none, Option.toList_some, Option.toList_none, List.nil_append, List.cons_append, ↓reduceIte, reduceCtorEq, cl1_i, cl1_r, cl1_n, cl1_0, cl1_J, okS_0, okS_1, okS_2, okS_3, okS_4, bB_0, bB_and, z_0, z_1, z_10, bB_t, bB_f, Bool.true_eq_false, Bool.false_eq_true, gT0, gT1, gT2, gT3, gT4, gT5, gT6, gF0, gF1, gF2, gF3, gF4, gS0, gS1, gC0, gC1, iT, iF, iS, iC, sT6_0, sT6_1, sF2, sF3, sF4_0, sF4_1, sS1, sC1, gM0, gM1, gM2, gM3, gM4, gM5, gM6, gM7, gM8, gM9, gM10, gM11, gM12, gM13, gM14, gM15, gM16, gM17, gM18, iM, sM5, sM6, sM11, sM12, sM13, sM14, sM16, sM18, sM2_0, sM2_1, sM3_0, sM3_1, sM4_0, sM4_1, mS_0, mS_1, mS_2, mS_3, mS_4, mS_5, mS_6, mS_7, mS_8, mS_9, mS_10, mS_11, mS_12, mS_13, mS_14, mS_15, mS_16, mS_17, mS_18, decide_true, decide_false, Bool.not_true, Bool.not_false, hd]
  | false =>
    obtain ⟨l', s', r1, r2⟩ := c16q (sc := sc) (s := s) (c := c) (th := th) (be := be) (qu := qu) (mo := 0) (li := li) (mm := hM (mS f mt jl R O A)) hX (q := 0) (by decide)
    have r1' : RunM 16 [.ref 13] (hp sc (fB f) s c th be qu 0 li (hM (mS f mt jl R O A))) = _ := r1
    obtain ⟨R', A', r3⟩ := c106q (sc := sc) (F := fB (bgq f 0).2) (s := s') (c := c) (th := th) (be := be) (qu := qu) (mo := 0) (li := upL li 0 l') (f := f) (mt := false) (jl := jl) (R := R) (O := O) (A := A) hd hX (q := 0) (by decide)
    rw [Bool.and_false, nI_0] at r3
    obtain ⟨k1, k2⟩ := hX.bg (q := 0) (by decide)
    have c760 : RunM 76 [.ref 1, .int 0] (hp sc (fB f) s c th be qu 0 li (hM (mS f mt jl R O A))) = some (some (.ref 13), hp sc (fB f) s c th be qu 0 li (hM (mS f mt jl R O A))) := c76 (q := 0) (by decide)
    have iO0 : isO (hp sc (fB f) s c th be qu 0 li (hM (mS f mt jl R O A))) 13 1 = true := iO (q := 0) (by decide)
    have hIN : ∃ Lo', IX (bgq f 0).2 Lo' ∧ Sh Lo' := by
      cases hr : (bgq f 0).1 with
      | false => exact ⟨Lo, k2 hr, hS⟩
      | true =>
        refine ⟨_, k1 hr, ?_⟩
        have h0 : ∀ x, Rch (lsO (upO Lo 0 (some nilL))) 0 x → x = 0 := fun x hx => Rch.in (P := fun x => x = 0) rfl (fun x hx y hy => by
          subst hx
          rw [lsO_self] at hy
          cases hy) hx
        exact ⟨fun x hx hn => absurd (h0 x hx) hn, fun x y hx hy _ _ => by rw [h0 x hx, h0 y hy]⟩
    obtain ⟨Lo', hX', hS'⟩ := hIN
    refine ⟨some (.int (if (bgq f 0).1 = true then 0 else -9)), (hp sc (fB ((bgq f 0).2)) (s') c th be qu (bB (false)) (upL li 0 l') (hM (mS f mt jl R O A))), (hp sc (fB ((bgq f 0).2)) (s') c th be qu (bB (false)) (upL li 0 l') (hM (mS ((bgq f 0).2) (false) (jA (bgq f 0).1 jl) (R') O (A')))), ?_, ?_, mkI hX' hS' (fun h => by cases h)⟩
    · simp only [e57, s57_0, s57_0n, s57_1, s57_2, s57_5, s57_5n, s57_6, s57_9, Option.bind_some, Option.bind_none, Option.toList_some, Option.toList_none, List.nil_append, List.cons_append, ↓reduceIte, reduceCtorEq, cl1_i, cl1_r, cl1_n, cl1_0, cl1_J, okS_0, okS_1, okS_2, okS_3, okS_4, bB_0, bB_and, z_0, z_1, z_10, bB_t, bB_f, Bool.true_eq_false, Bool.false_eq_true, gT0, gT1, gT2, gT3, gT4, gT5, gT6, gF0, gF1, gF2, gF3, gF4, gS0, gS1, gC0, gC1, iT, iF, iS, iC, sT6_0, sT6_1, sF2, sF3, sF4_0, sF4_1, sS1, sC1, c3, hd]
      simp only [s57_12, s57_18, s57_18n, s57_19, s57_20, Option.bind_some, Option.bind_none, Option.toList_some, Option.toList_none, List.nil_append, List.cons_append, ↓reduceIte, reduceCtorEq, cl1_i, cl1_r, cl1_n, cl1_0, cl1_J, okS_0, okS_1, okS_2, okS_3, okS_4, bB_0, bB_and, z_0, z_1, z_10, bB_t, bB_f, Bool.true_eq_false, Bool.false_eq_true, gT0, gT1, gT2, gT3, gT4, gT5, gT6, gF0, gF1, gF2, gF3, gF4, gS0, gS1, gC0, gC1, iT, iF, iS, iC, sT6_0, sT6_1, sF2, sF3, sF4_0, sF4_1, sS1, sC1, c760]
      simp only [s57_23, s57_23n, s57_24, s57_24n, s57_25, s57_25n, s57_28, s57_28n, Option.bind_some, Option.bind_none, Option.toList_some, Option.toList_none, List.nil_append, List.cons_append, ↓reduceIte, reduceCtorEq, cl1_i, cl1_r, cl1_n, cl1_0, cl1_J, okS_0, okS_1, okS_2, okS_3, okS_4, bB_0, bB_and, z_0, z_1, z_10, bB_t, bB_f, Bool.true_eq_false, Bool.false_eq_true, gT0, gT1, gT2, gT3, gT4, gT5, gT6, gF0, gF1, gF2, gF3, gF4, gS0, gS1, gC0, gC1, iT, iF, iS, iC, sT6_0, sT6_1, sF2, sF3, sF4_0, sF4_1, sS1, sC1]
      simp only [s57_29, Option.bind_some, Option.bind_none, Option.toList_some, Option.toList_none, List.nil_append, List.cons_append, ↓reduceIte, reduceCtorEq, cl1_i, cl1_r, cl1_n, cl1_0, cl1_J, okS_0, okS_1, okS_2, okS_3, okS_4, bB_0, bB_and, z_0, z_1, z_10, bB_t, bB_f, Bool.true_eq_false, Bool.false_eq_true, gT0, gT1, gT2, gT3, gT4, gT5, gT6, gF0, gF1, gF2, gF3, gF4, gS0, gS1, gC0, gC1, iT, iF, iS, iC, sT6_0, sT6_1, sF2, sF3, sF4_0, sF4_1, sS1, sC1, iO0, r1']
      cases hr : (bgq f 0).1 with
      | true => simp only [s57_32, s57_35, s57_36, s57_41, Option.bind_some, Option.bind_none, Option.toList_some, Option.toList_none, List.nil_append, List.cons_append, ↓reduceIte, reduceCtorEq, cl1_i, cl1_r, cl1_n, cl1_0, cl1_J, okS_0, okS_1, okS_2, okS_3, okS_4, bB_0, bB_and, z_0, z_1, z_10, bB_t, bB_f, Bool.true_eq_false, Bool.false_eq_true, gT0, gT1, gT2, gT3, gT4, gT5, gT6, gF0, gF1, gF2, gF3, gF4, gS0, gS1, gC0, gC1, iT, iF, iS, iC, sT6_0, sT6_1, sF2, sF3, sF4_0, sF4_1, sS1, sC1]
      | false => simp only [s57_32, s57_39, s57_41, Option.bind_some, Option.bind_none, Option.toList_some, Option.toList_none, List.nil_append, List.cons_append, ↓reduceIte, reduceCtorEq, cl1_i, cl1_r, cl1_n, cl1_0, cl1_J, okS_0, okS_1, okS_2, okS_3, okS_4, bB_0, bB_and, z_0, z_1, z_10, bB_t, bB_f, Bool.true_eq_false, Bool.false_eq_true, gT0, gT1, gT2, gT3, gT4, gT5, gT6, gF0, gF1, gF2, gF3, gF4, gS0, gS1, gC0, gC1, iT, iF, iS, iC, sT6_0, sT6_1, sF2, sF3, sF4_0, sF4_1, sS1, sC1]
    · have hd0 : (f.2.2.2.2 = false) = True := by rw [hd]; simp
      simp only [e112, s112_0, s112_0n, s112_1, s112_4, s112_10, s112_10n, s112_11, s112_12, s112_15, s112_15n, s112_16, s112_16n, s112_17, Option.bind_some, Option.bind_none, Option.toList_some, Option.toList_none, List.nil_append, List.cons_append, ↓reduceIte, reduceCtorEq, cl1_i, cl1_r, cl1_n, cl1_0, cl1_J, okS_0, okS_1, okS_2, okS_3, okS_4, bB_0, bB_and, z_0, z_1, z_10, bB_t, bB_f, Bool.true_eq_false, Bool.false_eq_true, gT0, gT1, gT2, gT3, gT4, gT5, gT6, gF0, gF1, gF2, gF3, gF4, gS0, gS1, gC0, gC1, iT, iF, iS, iC, sT6_0, sT6_1, sF2, sF3, sF4_0, sF4_1, sS1, sC1, gM0, gM1, gM2, gM3, gM4, gM5, gM6, gM7, gM8, gM9, gM10, gM11, gM12, gM13, gM14, gM15, gM16, gM17, gM18, iM, sM5, sM6, sM11, sM12, sM13, sM14, sM16, sM18, sM2_0, sM2_1, sM3_0, sM3_1, sM4_0, sM4_1, mS_0, mS_1, mS_2, mS_3, mS_4, mS_5, mS_6, mS_7, mS_8, mS_9, mS_10, mS_11, mS_12, mS_13, mS_14, mS_15, mS_16, mS_17, mS_18, decide_true, decide_false, Bool.not_true, Bool.not_false, hd0]
      change Run 112 18 _ _ (hp sc (fB (bgq f 0).2) s' c th be qu 0 (upL li 0 l') (hM (mS f false jl R O A))) = _
      simp only [s112_18, s112_21, Option.bind_some, Option.bind_none, Option.toList_some, Option.toList_none, List.nil_append, List.cons_append, ↓reduceIte, reduceCtorEq, cl1_i, cl1_r, cl1_n, cl1_0, cl1_J, okS_0, okS_1, okS_2, okS_3, okS_4, bB_0, bB_and, z_0, z_1, z_10, bB_t, bB_f, Bool.true_eq_false, Bool.false_eq_true, gT0, gT1, gT2, gT3, gT4, gT5, gT6, gF0, gF1, gF2, gF3, gF4, gS0, gS1, gC0, gC1, iT, iF, iS, iC, sT6_0, sT6_1, sF2, sF3, sF4_0, sF4_1, sS1, sC1, gM0, gM1, gM2, gM3, gM4, gM5, gM6, gM7, gM8, gM9, gM10, gM11, gM12, gM13, gM14, gM15, gM16, gM17, gM18, iM, sM5, sM6, sM11, sM12, sM13, sM14, sM16, sM18, sM2_0, sM2_1, sM3_0, sM3_1, sM4_0, sM4_1, mS_0, mS_1, mS_2, mS_3, mS_4, mS_5, mS_6, mS_7, mS_8, mS_9, mS_10, mS_11, mS_12, mS_13, mS_14, mS_15, mS_16, mS_17, mS_18, decide_true, decide_false, Bool.not_true, Bool.not_false, r3]
      simp only [s112_22, s112_25, Option.bind_some, Option.bind_none, Option.toList_some, Option.toList_none, List.nil_append, List.cons_append, ↓reduceIte, reduceCtorEq, cl1_i, cl1_r, cl1_n, cl1_0, cl1_J, okS_0, okS_1, okS_2, okS_3, okS_4, bB_0, bB_and, z_0, z_1, z_10, bB_t, bB_f, Bool.true_eq_false, Bool.false_eq_true, gT0, gT1, gT2, gT3, gT4, gT5, gT6, gF0, gF1, gF2, gF3, gF4, gS0, gS1, gC0, gC1, iT, iF, iS, iC, sT6_0, sT6_1, sF2, sF3, sF4_0, sF4_1, sS1, sC1, gM0, gM1, gM2, gM3, gM4, gM5, gM6, gM7, gM8, gM9, gM10, gM11, gM12, gM13, gM14, gM15, gM16, gM17, gM18, iM, sM5, sM6, sM11, sM12, sM13, sM14, sM16, sM18, sM2_0, sM2_1, sM3_0, sM3_1, sM4_0, sM4_1, mS_0, mS_1, mS_2, mS_3, mS_4, mS_5, mS_6, mS_7, mS_8, mS_9, mS_10, mS_11, mS_12, mS_13, mS_14, mS_15, mS_16, mS_17, mS_18, decide_true, decide_false, Bool.not_true, Bool.not_false, c111]
end FMT
