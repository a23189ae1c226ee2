/-! ===== mount, both sides ===== -/
section MNM
variable {sc : AC} {F : FlS} {s c : OpS} {th be qu : Nat → Int32} {mo : Int32} {li : Nat → LiS} {f : FB} {mt : Bool} {jl : Int32} {R : RgS} {O A : OpS} {Lo : LO} {m p a : Nat} {s0 : Nat} {z3 z4 z5 z6 : Option Value}
theorem mnm_mk (hX : IX f Lo) (hs : s0 < 256) (hm8 : m < 8) (hmb : s0.testBit m = true) (hmk : (lsO Lo m).2 = some (p, a)) : ∃ R' y, Run 113 34 [some (.ref 61), some (.int (nI s0)), some (.int (nI m)), z3, z4, z5, z6] [] (hp sc F s c th be qu mo li (hM (mS f mt jl R O A))) = Run 113 88 [some (.ref 61), some (.int (nI s0)), some (.int (nI m)), some (.int y), some (.int (nI p)), some (.int (nI a)), z6] [] (hp sc F s c th be qu mo li (hM (mS f mt jl (R') O A))) := by
  have h3 : nI m < 8 := nI_lit (k := 8) hm8 (by decide)
  have hMk := (hX.okL hm8).2.2.2 _ hmk
  obtain ⟨R1, r2, r3⟩ := c101q (sc := sc) (F := F) (s := s) (c := c) (th := th) (be := be) (qu := qu) (mo := mo) (li := li) (f := f) (mt := mt) (jl := jl) (R := R) (O := O) (A := A) hX hm8
  have h9 := r3.2.2.2
  rw [hmk] at h9
  have g1 : R1.2.2.1 = nI p := h9.1
  have g2 : R1.2.2.2.1 = nI a := h9.2
  have hst : ∃ st, Lo m = some st := by
    cases hL : Lo m with
    | none => rw [lsO, hL] at hmk; cases hmk
    | some st => exact ⟨st, rfl⟩
  obtain ⟨st, hst⟩ := hst
  obtain ⟨b, hb⟩ := hX.acS hm8 hst
  have hbp : ¬ nI b < 0 := nI_pos (by have := act_lt hm8 hb; omega)
  have ha0 : 0 < nI a := by
    have := nI_lt (a := 0) (show 0 < a from hMk.2.1) (by have := hMk.2.2; dsimp only at this; omega)
    rwa [nI_0] at this
  have hp8 : p < 8 := hMk.1
  have hpp : ¬ nI p < 0 := nI_pos (by omega)
  have hp3 : nI p < 8 := nI_lit (k := 8) hp8 (by decide)
  rw [hb, oI_s] at r2
  refine ⟨R1, nI b, ?_⟩
  simp only [s113_34, s113_35, s113_37, s113_40, s113_41, s113_42, s113_43, s113_44, s113_45, s113_46, s113_49, s113_49n, s113_50, Option.bind_some, Option.bind_none, Option.toList_some, Option.toList_none, List.nil_append, List.cons_append, ↓reduceIte, reduceCtorEq, cl1_i, cl1_r, cl1_n, cl1_0, cl1_J, okS_0, okS_1, okS_2, okS_3, okS_4, bB_0, bB_and, z_0, z_1, z_10, bB_t, bB_f, Bool.true_eq_false, Bool.false_eq_true, gT0, gT1, gT2, gT3, gT4, gT5, gT6, gF0, gF1, gF2, gF3, gF4, gS0, gS1, gC0, gC1, iT, iF, iS, iC, sT6_0, sT6_1, sF2, sF3, sF4_0, sF4_1, sS1, sC1, gM0, gM1, gM2, gM3, gM4, gM5, gM6, gM7, gM8, gM9, gM10, gM11, gM12, gM13, gM14, gM15, gM16, gM17, gM18, iM, sM5, sM6, sM11, sM12, sM13, sM14, sM16, sM18, sM2_0, sM2_1, sM3_0, sM3_1, sM4_0, sM4_1, mS_0, mS_1, mS_2, mS_3, mS_4, mS_5, mS_6, mS_7, mS_8, mS_9, mS_10, mS_11, mS_12, mS_13, mS_14, mS_15, mS_16, mS_17, mS_18, decide_true, decide_false, Bool.not_true, Bool.not_false, h3, tst_bit _ hs _ hm8, hmb]
  simp only [s113_51, s113_54, s113_55, s113_55n, s113_56, s113_59, s113_61, s113_61n, s113_62, s113_65, s113_67, s113_69, s113_72, s113_73, s113_76, s113_78, s113_81, s113_83, s113_85, Option.bind_some, Option.bind_none, Option.toList_some, Option.toList_none, List.nil_append, List.cons_append, ↓reduceIte, reduceCtorEq, cl1_i, cl1_r, cl1_n, cl1_0, cl1_J, okS_0, okS_1, okS_2, okS_3, okS_4, bB_0, bB_and, z_0, z_1, z_10, bB_t, bB_f, Bool.true_eq_false, Bool.false_eq_true, gT0, gT1, gT2, gT3, gT4, gT5, gT6, gF0, gF1, gF2, gF3, gF4, gS0, gS1, gC0, gC1, iT, iF, iS, iC, sT6_0, sT6_1, sF2, sF3, sF4_0, sF4_1, sS1, sC1, gM0, gM1, gM2, gM3, gM4, gM5, gM6, gM7, gM8, gM9, gM10, gM11, gM12, gM13, gM14, gM15, gM16, gM17, gM18, iM, sM5, sM6, sM11, sM12, sM13, sM14, sM16, sM18, sM2_0, sM2_1, sM3_0, sM3_1, sM4_0, sM4_1, mS_0, mS_1, mS_2, mS_3, mS_4, mS_5, mS_6, mS_7, mS_8, mS_9, mS_10, mS_11, mS_12, mS_13, mS_14, mS_15, mS_16, mS_17, mS_18, decide_true, decide_false, Bool.not_true, Bool.not_false, r2, g1, g2, ha0, hbp, hpp, hp3]
theorem k113A (hd : f.2.2.2.2 = false) (hX : IX f Lo) (hs : s0 < 256) (hm8 : m < 8) (hmb : s0.testBit m = true) (hmk : (lsO Lo m).2 = some (p, a)) (hpb : s0.testBit p = true) {st : Lst} (hst : Lo p = some st) (hfd : fiE st.1 (nI a) ≠ none) : ∃ R' A' y, Run 113 34 [some (.ref 61), some (.int (nI s0)), some (.int (nI m)), z3, z4, z5, z6] [] (hp sc F s c th be qu mo li (hM (mS f (false) jl R O A))) = Run 113 150 [some (.ref 61), some (.int (nI s0)), some (.int (nI m)), some (.int y), some (.int (nI p)), some (.int (nI a)), some (.int 1)] [.int (bB (cmq f p (gnO a) st).1)] (hp sc F s c th be qu mo li (hM (mS ((cmq f p (gnO a) st).2) (false) (jA (cmq f p (gnO a) st).1 jl) (R') (opf O.1 (encS (gnO a))) (A')))) := by
  have hMk := (hX.okL hm8).2.2.2 _ hmk
  have hp8 : p < 8 := hMk.1
  have ha99 : a ≤ 99 := hMk.2.2
  obtain ⟨R1, y, k1⟩ := mnm_mk (sc := sc) (F := F) (s := s) (c := c) (th := th) (be := be) (qu := qu) (mo := mo) (li := li) (f := f) (mt := false) (jl := jl) (R := R) (O := O) (A := A) (z3 := z3) (z4 := z4) (z5 := z5) (z6 := z6) hX hs hm8 hmb hmk
  obtain ⟨R2, r2, r3⟩ := c101q (sc := sc) (F := F) (s := s) (c := c) (th := th) (be := be) (qu := qu) (mo := mo) (li := li) (f := f) (mt := false) (jl := jl) (R := R1) (O := O) (A := A) hX hp8
  obtain ⟨b, hb⟩ := hX.acS hp8 hst
  have hbp : ¬ nI b < 0 := nI_pos (by have := act_lt hp8 hb; omega)
  rw [hb, oI_s] at r2
  rw [lsO_of hst] at r3
  obtain ⟨k, hk⟩ := Option.ne_none_iff_exists'.mp hfd
  have hkp : ¬ nI k < 0 := nI_pos (by have := (fiE_lt hk).1; have := r3.1; omega)
  obtain ⟨R3, A3, r8⟩ := c105q (sc := sc) (F := F) (s := s) (c := c) (th := th) (be := be) (qu := qu) (mo := mo) (li := li) (f := f) (mt := false) (jl := jl) (R := R2) (A := A) (j := O.1) hd hX hp8 hst (FitG st ha99) (by rw [encG]; exact Nat.le_of_ble_eq_true rfl)
  rw [Bool.and_false, encG] at r8
  refine ⟨R3, A3, y, ?_⟩
  rw [k1, encG]
  simp only [s113_88, s113_89, s113_91, s113_92, s113_93, s113_94, s113_95, s113_98, s113_98n, s113_99, Option.bind_some, Option.bind_none, Option.toList_some, Option.toList_none, List.nil_append, List.cons_append, ↓reduceIte, reduceCtorEq, cl1_i, cl1_r, cl1_n, cl1_0, cl1_J, okS_0, okS_1, okS_2, okS_3, okS_4, bB_0, bB_and, z_0, z_1, z_10, bB_t, bB_f, Bool.true_eq_false, Bool.false_eq_true, gT0, gT1, gT2, gT3, gT4, gT5, gT6, gF0, gF1, gF2, gF3, gF4, gS0, gS1, gC0, gC1, iT, iF, iS, iC, sT6_0, sT6_1, sF2, sF3, sF4_0, sF4_1, sS1, sC1, gM0, gM1, gM2, gM3, gM4, gM5, gM6, gM7, gM8, gM9, gM10, gM11, gM12, gM13, gM14, gM15, gM16, gM17, gM18, iM, sM5, sM6, sM11, sM12, sM13, sM14, sM16, sM18, sM2_0, sM2_1, sM3_0, sM3_1, sM4_0, sM4_1, mS_0, mS_1, mS_2, mS_3, mS_4, mS_5, mS_6, mS_7, mS_8, mS_9, mS_10, mS_11, mS_12, mS_13, mS_14, mS_15, mS_16, mS_17, mS_18, decide_true, decide_false, Bool.not_true, Bool.not_false, tst_bit _ hs _ hp8, hpb]
  simp only [s113_101, s113_104, s113_107, s113_107n, s113_108, Option.bind_some, Option.bind_none, Option.toList_some, Option.toList_none, List.nil_append, List.cons_append, ↓reduceIte, reduceCtorEq, cl1_i, cl1_r, cl1_n, cl1_0, cl1_J, okS_0, okS_1, okS_2, okS_3, okS_4, bB_0, bB_and, z_0, z_1, z_10, bB_t, bB_f, Bool.true_eq_false, Bool.false_eq_true, gT0, gT1, gT2, gT3, gT4, gT5, gT6, gF0, gF1, gF2, gF3, gF4, gS0, gS1, gC0, gC1, iT, iF, iS, iC, sT6_0, sT6_1, sF2, sF3, sF4_0, sF4_1, sS1, sC1, gM0, gM1, gM2, gM3, gM4, gM5, gM6, gM7, gM8, gM9, gM10, gM11, gM12, gM13, gM14, gM15, gM16, gM17, gM18, iM, sM5, sM6, sM11, sM12, sM13, sM14, sM16, sM18, sM2_0, sM2_1, sM3_0, sM3_1, sM4_0, sM4_1, mS_0, mS_1, mS_2, mS_3, mS_4, mS_5, mS_6, mS_7, mS_8, mS_9, mS_10, mS_11, mS_12, mS_13, mS_14, mS_15, mS_16, mS_17, mS_18, decide_true, decide_false, Bool.not_true, Bool.not_false, r2, hbp]
  simp only [s113_110, s113_113, s113_116, s113_117, s113_120, s113_121, s113_123, s113_125, s113_128, s113_128n, s113_129, s113_130, s113_133, s113_133n, s113_134, Option.bind_some, Option.bind_none, Option.toList_some, Option.toList_none, List.nil_append, List.cons_append, ↓reduceIte, reduceCtorEq, cl1_i, cl1_r, cl1_n, cl1_0, cl1_J, okS_0, okS_1, okS_2, okS_3, okS_4, bB_0, bB_and, z_0, z_1, z_10, bB_t, bB_f, Bool.true_eq_false, Bool.false_eq_true, gT0, gT1, gT2, gT3, gT4, gT5, gT6, gF0, gF1, gF2, gF3, gF4, gS0, gS1, gC0, gC1, iT, iF, iS, iC, sT6_0, sT6_1, sF2, sF3, sF4_0, sF4_1, sS1, sC1, gM0, gM1, gM2, gM3, gM4, gM5, gM6, gM7, gM8, gM9, gM10, gM11, gM12, gM13, gM14, gM15, gM16, gM17, gM18, iM, sM5, sM6, sM11, sM12, sM13, sM14, sM18, sM2_0, sM2_1, sM3_0, sM3_1, sM4_0, sM4_1, mS_0, mS_1, mS_2, mS_3, mS_4, mS_5, mS_6, mS_7, mS_8, mS_9, mS_10, mS_11, mS_12, mS_13, mS_14, mS_15, mS_16, mS_17, mS_18, decide_true, decide_false, Bool.not_true, Bool.not_false, sM16r, c97 r3, hk, oI_s, hkp]
  simp only [s113_135, s113_138, s113_138n, s113_139, Option.bind_some, Option.bind_none, Option.toList_some, Option.toList_none, List.nil_append, List.cons_append, ↓reduceIte, reduceCtorEq, cl1_i, cl1_r, cl1_n, cl1_0, cl1_J, okS_0, okS_1, okS_2, okS_3, okS_4, bB_0, bB_and, z_0, z_1, z_10, bB_t, bB_f, Bool.true_eq_false, Bool.false_eq_true, gT0, gT1, gT2, gT3, gT4, gT5, gT6, gF0, gF1, gF2, gF3, gF4, gS0, gS1, gC0, gC1, iT, iF, iS, iC, sT6_0, sT6_1, sF2, sF3, sF4_0, sF4_1, sS1, sC1, gM0, gM1, gM2, gM3, gM4, gM5, gM6, gM7, gM8, gM9, gM10, gM11, gM12, gM13, gM14, gM15, gM16, gM17, gM18, iM, sM5, sM6, sM11, sM12, sM13, sM14, sM18, sM2_0, sM2_1, sM3_0, sM3_1, sM4_0, sM4_1, mS_0, mS_1, mS_2, mS_3, mS_4, mS_5, mS_6, mS_7, mS_8, mS_9, mS_10, mS_11, mS_12, mS_13, mS_14, mS_15, mS_16, mS_17, mS_18, decide_true, decide_false, Bool.not_true, Bool.not_false, sM16r, c107 (show ([] : List Int32).length < 32 by decide), List.nil_append]
  simp only [s113_141, s113_144, s113_144n, s113_145, Option.bind_some, Option.bind_none, Option.toList_some, Option.toList_none, List.nil_append, List.cons_append, ↓reduceIte, reduceCtorEq, cl1_i, cl1_r, cl1_n, cl1_0, cl1_J, okS_0, okS_1, okS_2, okS_3, okS_4, bB_0, bB_and, z_0, z_1, z_10, bB_t, bB_f, Bool.true_eq_false, Bool.false_eq_true, gT0, gT1, gT2, gT3, gT4, gT5, gT6, gF0, gF1, gF2, gF3, gF4, gS0, gS1, gC0, gC1, iT, iF, iS, iC, sT6_0, sT6_1, sF2, sF3, sF4_0, sF4_1, sS1, sC1, gM0, gM1, gM2, gM3, gM4, gM5, gM6, gM7, gM8, gM9, gM10, gM11, gM12, gM13, gM14, gM15, gM16, gM17, gM18, iM, sM5, sM6, sM11, sM12, sM13, sM14, sM18, sM2_0, sM2_1, sM3_0, sM3_1, sM4_0, sM4_1, mS_0, mS_1, mS_2, mS_3, mS_4, mS_5, mS_6, mS_7, mS_8, mS_9, mS_10, mS_11, mS_12, mS_13, mS_14, mS_15, mS_16, mS_17, mS_18, decide_true, decide_false, Bool.not_true, Bool.not_false, sM16r, c107 (bs := [3]) (v := nI a) (Nat.le_of_ble_eq_true rfl), List.cons_append, List.nil_append]
  simp only [s113_147, Option.bind_some, Option.bind_none, Option.toList_some, Option.toList_none, List.nil_append, List.cons_append, ↓reduceIte, reduceCtorEq, cl1_i, cl1_r, cl1_n, cl1_0, cl1_J, okS_0, okS_1, okS_2, okS_3, okS_4, bB_0, bB_and, z_0, z_1, z_10, bB_t, bB_f, Bool.true_eq_false, Bool.false_eq_true, gT0, gT1, gT2, gT3, gT4, gT5, gT6, gF0, gF1, gF2, gF3, gF4, gS0, gS1, gC0, gC1, iT, iF, iS, iC, sT6_0, sT6_1, sF2, sF3, sF4_0, sF4_1, sS1, sC1, gM0, gM1, gM2, gM3, gM4, gM5, gM6, gM7, gM8, gM9, gM10, gM11, gM12, gM13, gM14, gM15, gM16, gM17, gM18, iM, sM5, sM6, sM11, sM12, sM13, sM14, sM18, sM2_0, sM2_1, sM3_0, sM3_1, sM4_0, sM4_1, mS_0, mS_1, mS_2, mS_3, mS_4, mS_5, mS_6, mS_7, mS_8, mS_9, mS_10, mS_11, mS_12, mS_13, mS_14, mS_15, mS_16, mS_17, mS_18, decide_true, decide_false, Bool.not_true, Bool.not_false, sM16r, r8]
theorem k113B (hX : IX f Lo) (hs : s0 < 256) (hm8 : m < 8) (hmb : s0.testBit m = true) (hmk : (lsO Lo m).2 = some (p, a)) (hn : s0.testBit p = true → fiE (lsO Lo p).1 (nI a) = none) : ∃ R' y, Run 113 34 [some (.ref 61), some (.int (nI s0)), some (.int (nI m)), z3, z4, z5, z6] [] (hp sc F s c th be qu mo li (hM (mS f mt jl R O A))) = Run 113 156 [some (.ref 61), some (.int (nI s0)), some (.int (nI m)), some (.int y), some (.int (nI p)), some (.int (nI a)), some (.int 0)] [] (hp sc F s c th be qu mo li (hM (mS f mt jl (R') O A))) := by
  have hMk := (hX.okL hm8).2.2.2 _ hmk
  have hp8 : p < 8 := hMk.1
  obtain ⟨R1, y, k1⟩ := mnm_mk (sc := sc) (F := F) (s := s) (c := c) (th := th) (be := be) (qu := qu) (mo := mo) (li := li) (f := f) (mt := mt) (jl := jl) (R := R) (O := O) (A := A) (z3 := z3) (z4 := z4) (z5 := z5) (z6 := z6) hX hs hm8 hmb hmk
  cases hpb : s0.testBit p with
  | false =>
    refine ⟨R1, y, ?_⟩
    have hz : ¬ (0 : Int32) = 1 := by decide
    rw [k1]
    simp only [s113_88, s113_89, s113_91, s113_92, s113_93, s113_94, s113_95, s113_120, s113_121, s113_123, s113_125, Option.bind_some, Option.bind_none, Option.toList_some, Option.toList_none, List.nil_append, List.cons_append, ↓reduceIte, reduceCtorEq, cl1_i, cl1_r, cl1_n, cl1_0, cl1_J, okS_0, okS_1, okS_2, okS_3, okS_4, bB_0, bB_and, z_0, z_1, z_10, bB_t, bB_f, Bool.true_eq_false, Bool.false_eq_true, gT0, gT1, gT2, gT3, gT4, gT5, gT6, gF0, gF1, gF2, gF3, gF4, gS0, gS1, gC0, gC1, iT, iF, iS, iC, sT6_0, sT6_1, sF2, sF3, sF4_0, sF4_1, sS1, sC1, tst_bit _ hs _ hp8, hpb, hz]
  | true =>
    obtain ⟨R2, r2, r3⟩ := c101q (sc := sc) (F := F) (s := s) (c := c) (th := th) (be := be) (qu := qu) (mo := mo) (li := li) (f := f) (mt := mt) (jl := jl) (R := R1) (O := O) (A := A) hX hp8
    refine ⟨R2, y, ?_⟩
    have hm1 : (-1 : Int32) < 0 := by decide
    rw [k1]
    simp only [s113_88, s113_89, s113_91, s113_92, s113_93, s113_94, s113_95, s113_98, s113_98n, s113_99, Option.bind_some, Option.bind_none, Option.toList_some, Option.toList_none, List.nil_append, List.cons_append, ↓reduceIte, reduceCtorEq, cl1_i, cl1_r, cl1_n, cl1_0, cl1_J, okS_0, okS_1, okS_2, okS_3, okS_4, bB_0, bB_and, z_0, z_1, z_10, bB_t, bB_f, Bool.true_eq_false, Bool.false_eq_true, gT0, gT1, gT2, gT3, gT4, gT5, gT6, gF0, gF1, gF2, gF3, gF4, gS0, gS1, gC0, gC1, iT, iF, iS, iC, sT6_0, sT6_1, sF2, sF3, sF4_0, sF4_1, sS1, sC1, gM0, gM1, gM2, gM3, gM4, gM5, gM6, gM7, gM8, gM9, gM10, gM11, gM12, gM13, gM14, gM15, gM16, gM17, gM18, iM, sM5, sM6, sM11, sM12, sM13, sM14, sM16, sM18, sM2_0, sM2_1, sM3_0, sM3_1, sM4_0, sM4_1, mS_0, mS_1, mS_2, mS_3, mS_4, mS_5, mS_6, mS_7, mS_8, mS_9, mS_10, mS_11, mS_12, mS_13, mS_14, mS_15, mS_16, mS_17, mS_18, decide_true, decide_false, Bool.not_true, Bool.not_false, tst_bit _ hs _ hp8, hpb]
    cases hb : act f p with
    | none =>
      rw [hb, oI_n] at r2
      simp only [s113_101, s113_104, s113_120, s113_121, s113_123, s113_125, Option.bind_some, Option.bind_none, Option.toList_some, Option.toList_none, List.nil_append, List.cons_append, ↓reduceIte, reduceCtorEq, cl1_i, cl1_r, cl1_n, cl1_0, cl1_J, okS_0, okS_1, okS_2, okS_3, okS_4, bB_0, bB_and, z_0, z_1, z_10, bB_t, bB_f, Bool.true_eq_false, Bool.false_eq_true, gT0, gT1, gT2, gT3, gT4, gT5, gT6, gF0, gF1, gF2, gF3, gF4, gS0, gS1, gC0, gC1, iT, iF, iS, iC, sT6_0, sT6_1, sF2, sF3, sF4_0, sF4_1, sS1, sC1, gM0, gM1, gM2, gM3, gM4, gM5, gM6, gM7, gM8, gM9, gM10, gM11, gM12, gM13, gM14, gM15, gM16, gM17, gM18, iM, sM5, sM6, sM11, sM12, sM13, sM14, sM16, sM18, sM2_0, sM2_1, sM3_0, sM3_1, sM4_0, sM4_1, mS_0, mS_1, mS_2, mS_3, mS_4, mS_5, mS_6, mS_7, mS_8, mS_9, mS_10, mS_11, mS_12, mS_13, mS_14, mS_15, mS_16, mS_17, mS_18, decide_true, decide_false, Bool.not_true, Bool.not_false, r2, hm1]
    | some b =>
      have hbp : ¬ nI b < 0 := nI_pos (by have := act_lt hp8 hb; omega)
      rw [hb, oI_s] at r2
      simp only [s113_101, s113_104, s113_107, s113_107n, s113_108, Option.bind_some, Option.bind_none, Option.toList_some, Option.toList_none, List.nil_append, List.cons_append, ↓reduceIte, reduceCtorEq, cl1_i, cl1_r, cl1_n, cl1_0, cl1_J, okS_0, okS_1, okS_2, okS_3, okS_4, bB_0, bB_and, z_0, z_1, z_10, bB_t, bB_f, Bool.true_eq_false, Bool.false_eq_true, gT0, gT1, gT2, gT3, gT4, gT5, gT6, gF0, gF1, gF2, gF3, gF4, gS0, gS1, gC0, gC1, iT, iF, iS, iC, sT6_0, sT6_1, sF2, sF3, sF4_0, sF4_1, sS1, sC1, gM0, gM1, gM2, gM3, gM4, gM5, gM6, gM7, gM8, gM9, gM10, gM11, gM12, gM13, gM14, gM15, gM16, gM17, gM18, iM, sM5, sM6, sM11, sM12, sM13, sM14, sM16, sM18, sM2_0, sM2_1, sM3_0, sM3_1, sM4_0, sM4_1, mS_0, mS_1, mS_2, mS_3, mS_4, mS_5, mS_6, mS_7, mS_8, mS_9, mS_10, mS_11, mS_12, mS_13, mS_14, mS_15, mS_16, mS_17, mS_18, decide_true, decide_false, Bool.not_true, Bool.not_false, r2, hbp]
      simp only [s113_110, s113_113, s113_120, s113_121, s113_123, s113_125, Option.bind_some, Option.bind_none, Option.toList_some, Option.toList_none, List.nil_append, List.cons_append, ↓reduceIte, reduceCtorEq, cl1_i, cl1_r, cl1_n, cl1_0, cl1_J, okS_0, okS_1, okS_2, okS_3, okS_4, bB_0, bB_and, z_0, z_1, z_10, bB_t, bB_f, Bool.true_eq_false, Bool.false_eq_true, gT0, gT1, gT2, gT3, gT4, gT5, gT6, gF0, gF1, gF2, gF3, gF4, gS0, gS1, gC0, gC1, iT, iF, iS, iC, sT6_0, sT6_1, sF2, sF3, sF4_0, sF4_1, sS1, sC1, gM0, gM1, gM2, gM3, gM4, gM5, gM6, gM7, gM8, gM9, gM10, gM11, gM12, gM13, gM14, gM15, gM16, gM17, gM18, iM, sM5, sM6, sM11, sM12, sM13, sM14, sM16, sM18, sM2_0, sM2_1, sM3_0, sM3_1, sM4_0, sM4_1, mS_0, mS_1, mS_2, mS_3, mS_4, mS_5, mS_6, mS_7, mS_8, mS_9, mS_10, mS_11, mS_12, mS_13, mS_14, mS_15, mS_16, mS_17, mS_18, decide_true, decide_false, Bool.not_true, Bool.not_false, c97 r3, hn hpb, oI_n, hm1]
theorem k113C (hd : f.2.2.2.2 = false) (hX : IX f Lo) (hm8 : m < 8) {st : Lst} (hst : Lo m = some st) {a1 : Option Value} : ∃ R' A', Run 113 156 [some (.ref 61), a1, some (.int (nI m)), z3, z4, z5, z6] [] (hp sc F s c th be qu mo li (hM (mS f (false) jl R O A))) = Run 113 171 [some (.ref 61), a1, some (.int (nI m)), z3, z4, z5, z6] [.int (bB (cmq f m nmO st).1)] (hp sc F s c th be qu mo li (hM (mS ((cmq f m nmO st).2) (false) (jA (cmq f m nmO st).1 jl) (R') (opf O.1 (encS nmO)) (A')))) := by
  obtain ⟨R3, A3, r8⟩ := c105q (sc := sc) (F := F) (s := s) (c := c) (th := th) (be := be) (qu := qu) (mo := mo) (li := li) (f := f) (mt := false) (jl := jl) (R := R) (A := A) (j := O.1) hd hX hm8 hst (FitN st) (by rw [encN]; decide)
  rw [Bool.and_false, encN] at r8
  refine ⟨R3, A3, ?_⟩
  rw [encN]
  simp only [s113_156, s113_156n, s113_157, s113_158, s113_161, s113_161n, s113_162, Option.bind_some, Option.bind_none, Option.toList_some, Option.toList_none, List.nil_append, List.cons_append, ↓reduceIte, reduceCtorEq, cl1_i, cl1_r, cl1_n, cl1_0, cl1_J, okS_0, okS_1, okS_2, okS_3, okS_4, bB_0, bB_and, z_0, z_1, z_10, bB_t, bB_f, Bool.true_eq_false, Bool.false_eq_true, gT0, gT1, gT2, gT3, gT4, gT5, gT6, gF0, gF1, gF2, gF3, gF4, gS0, gS1, gC0, gC1, iT, iF, iS, iC, sT6_0, sT6_1, sF2, sF3, sF4_0, sF4_1, sS1, sC1, gM0, gM1, gM2, gM3, gM4, gM5, gM6, gM7, gM8, gM9, gM10, gM11, gM12, gM13, gM14, gM15, gM16, gM17, gM18, iM, sM5, sM6, sM11, sM12, sM13, sM14, sM18, sM2_0, sM2_1, sM3_0, sM3_1, sM4_0, sM4_1, mS_0, mS_1, mS_2, mS_3, mS_4, mS_5, mS_6, mS_7, mS_8, mS_9, mS_10, mS_11, mS_12, mS_13, mS_14, mS_15, mS_16, mS_17, mS_18, decide_true, decide_false, Bool.not_true, Bool.not_false, sM16r]
  simp only [s113_163, s113_166, s113_166n, s113_167, Option.bind_some, Option.bind_none, Option.toList_some, Option.toList_none, List.nil_append, List.cons_append, ↓reduceIte, reduceCtorEq, cl1_i, cl1_r, cl1_n, cl1_0, cl1_J, okS_0, okS_1, okS_2, okS_3, okS_4, bB_0, bB_and, z_0, z_1, z_10, bB_t, bB_f, Bool.true_eq_false, Bool.false_eq_true, gT0, gT1, gT2, gT3, gT4, gT5, gT6, gF0, gF1, gF2, gF3, gF4, gS0, gS1, gC0, gC1, iT, iF, iS, iC, sT6_0, sT6_1, sF2, sF3, sF4_0, sF4_1, sS1, sC1, gM0, gM1, gM2, gM3, gM4, gM5, gM6, gM7, gM8, gM9, gM10, gM11, gM12, gM13, gM14, gM15, gM16, gM17, gM18, iM, sM5, sM6, sM11, sM12, sM13, sM14, sM18, sM2_0, sM2_1, sM3_0, sM3_1, sM4_0, sM4_1, mS_0, mS_1, mS_2, mS_3, mS_4, mS_5, mS_6, mS_7, mS_8, mS_9, mS_10, mS_11, mS_12, mS_13, mS_14, mS_15, mS_16, mS_17, mS_18, decide_true, decide_false, Bool.not_true, Bool.not_false, sM16r, c107 (show ([] : List Int32).length < 32 by decide), List.nil_append]
  simp only [s113_168, Option.bind_some, Option.bind_none, Option.toList_some, Option.toList_none, List.nil_append, List.cons_append, ↓reduceIte, reduceCtorEq, cl1_i, cl1_r, cl1_n, cl1_0, cl1_J, okS_0, okS_1, okS_2, okS_3, okS_4, bB_0, bB_and, z_0, z_1, z_10, bB_t, bB_f, Bool.true_eq_false, Bool.false_eq_true, gT0, gT1, gT2, gT3, gT4, gT5, gT6, gF0, gF1, gF2, gF3, gF4, gS0, gS1, gC0, gC1, iT, iF, iS, iC, sT6_0, sT6_1, sF2, sF3, sF4_0, sF4_1, sS1, sC1, gM0, gM1, gM2, gM3, gM4, gM5, gM6, gM7, gM8, gM9, gM10, gM11, gM12, gM13, gM14, gM15, gM16, gM17, gM18, iM, sM5, sM6, sM11, sM12, sM13, sM14, sM18, sM2_0, sM2_1, sM3_0, sM3_1, sM4_0, sM4_1, mS_0, mS_1, mS_2, mS_3, mS_4, mS_5, mS_6, mS_7, mS_8, mS_9, mS_10, mS_11, mS_12, mS_13, mS_14, mS_15, mS_16, mS_17, mS_18, decide_true, decide_false, Bool.not_true, Bool.not_false, sM16r, r8]
/-- behind the last folder -/
theorem k113E {y : Int32} : Run 113 34 [some (.ref 61), some (.int y), some (.int (nI 8)), z3, z4, z5, z6] [] (hp sc F s c th be qu mo li (hM (mS f (false) jl R O A))) = some (some (.int 0), (hp sc F s c th be qu mo li (hM (mS f (true) jl R O A)))) := by
  have h3 : ¬ nI 8 < 8 := by decide
  simp only [s113_34, s113_35, s113_37, s113_183, s113_183n, s113_184, s113_185, s113_188, s113_189, Option.bind_some, Option.bind_none, Option.toList_some, Option.toList_none, List.nil_append, List.cons_append, ↓reduceIte, reduceCtorEq, cl1_i, cl1_r, cl1_n, cl1_0, cl1_J, okS_0, okS_1, okS_2, okS_3, okS_4, bB_0, bB_and, z_0, z_1, z_10, bB_t, bB_f, Bool.true_eq_false, Bool.false_eq_true, gT0, gT1, gT2, gT3, gT4, gT5, gT6, gF0, gF1, gF2, gF3, gF4, gS0, gS1, gC0, gC1, iT, iF, iS, iC, sT6_0, sT6_1, sF2, sF3, sF4_0, sF4_1, sS1, sC1, gM0, gM1, gM2, gM3, gM4, gM5, gM6, gM7, gM8, gM9, gM10, gM11, gM12, gM13, gM14, gM15, gM16, gM17, gM18, iM, sM5, sM6, sM11, sM12, sM13, sM14, sM16, sM18, sM2_0, sM2_1, sM3_0, sM3_1, sM4_0, sM4_1, mS_0, mS_1, mS_2, mS_3, mS_4, mS_5, mS_6, mS_7, mS_8, mS_9, mS_10, mS_11, mS_12, mS_13, mS_14, mS_15, mS_16, mS_17, mS_18, decide_true, decide_false, Bool.not_true, Bool.not_false, h3]
  rfl
end MNM
section BMN
variable {sc : AC}
theorem B58 : Bo sc 58 113 [] := by
  rintro H ⟨f, s, c, th, be, qu, mt, li, jl, R, O, A, Lo, rfl, hX, hS, hU⟩
  cases hd : f.2.2.2.2 with
  | true =>
    have hmt : mt = false := by
      cases mt with
      | false => rfl
      | true => have := (hU rfl).1; rw [hd] at this; cases this
    subst hmt
    refine ⟨some (.int (-9)), (hp sc (fB f) s c th be qu (bB (false)) li (hM (mS f (false) jl R O A))), (hp sc (fB f) s c th be qu (bB (false)) li (hM (mS f (false) jl R O A))), ?_, ?_, mkI hX hS hU⟩
    · simp only [e58, s58_0, s58_0n, s58_1, s58_2, s58_5, s58_5n, s58_6, s58_9, Option.bind_some, Option.bind_none, Option.toList_some, Option.toList_none, List.nil_append, List.cons_append, ↓reduceIte, reduceCtorEq, cl1_i, cl1_r, cl1_n, cl1_0, cl1_J, okS_0, okS_1, okS_2, okS_3, okS_4, bB_0, bB_and, z_0, z_1, z_10, bB_t, bB_f, Bool.true_eq_false, Bool.false_eq_true, gT0, gT1, gT2, gT3, gT4, gT5, gT6, gF0, gF1, gF2, gF3, gF4, gS0, gS1, gC0, gC1, iT, iF, iS, iC, sT6_0, sT6_1, sF2, sF3, sF4_0, sF4_1, sS1, sC1, c3, hd]
      simp only [s58_12, s58_15, s58_17, Option.bind_some, Option.bind_none, Option.toList_some, Option.toList_none, List.nil_append, List.cons_append, ↓reduceIte, reduceCtorEq, cl1_i, cl1_r, cl1_n, cl1_0, cl1_J, okS_0, okS_1, okS_2, okS_3, okS_4, bB_0, bB_and, z_0, z_1, z_10, bB_t, bB_f, Bool.true_eq_false, Bool.false_eq_true, gT0, gT1, gT2, gT3, gT4, gT5, gT6, gF0, gF1, gF2, gF3, gF4, gS0, gS1, gC0, gC1, iT, iF, iS, iC, sT6_0, sT6_1, sF2, sF3, sF4_0, sF4_1, sS1, sC1]
    · simp only [e113, s113_0, s113_0n, s113_1, s113_4, s113_7, s113_9, Option.bind_some, Option.bind_none, Option.toList_some, Option.toList_none, List.nil_append, List.cons_append, ↓reduceIte, reduceCtorEq, cl1_i, cl1_r, cl1_n, cl1_0, cl1_J, okS_0, okS_1, okS_2, okS_3, okS_4, bB_0, bB_and, z_0, z_1, z_10, bB_t, bB_f, Bool.true_eq_false, Bool.false_eq_true, gT0, gT1, gT2, gT3, gT4, gT5, gT6, gF0, gF1, gF2, gF3, gF4, gS0, gS1, gC0, gC1, iT, iF, iS, iC, sT6_0, sT6_1, sF2, sF3, sF4_0, sF4_1, sS1, sC1, gM0, gM1, gM2, gM3, gM4, gM5, gM6, gM7, gM8, gM9, gM10, gM11, gM12, gM13, gM14, gM15, gM16, gM17, gM18, iM, sM5, sM6, sM11, sM12, sM13, sM14, sM16, sM18, sM2_0, sM2_1, sM3_0, sM3_1, sM4_0, sM4_1, mS_0, mS_1, mS_2, mS_3, mS_4, mS_5, mS_6, mS_7, mS_8, mS_9, mS_10, mS_11, mS_12, mS_13, mS_14, mS_15, mS_16, mS_17, mS_18, decide_true, decide_false, Bool.not_true, Bool.not_false, hd]
  | false =>
    have hd0 : (f.2.2.2.2 = false) = True := by rw [hd]; simp
    have hcl1 : ∀ {mm : AH}, RunM 58 [.ref 1] (hp sc (fB f) s c th be qu (bB mt) li mm) = Run 58 32 [some (.ref 1), some (.ref 13)] [.int (oI (act f 0))] (hp sc (fB f) s c th be qu 0 li mm) := by
      intro mm
      have c760 : RunM 76 [.ref 1, .int 0] (hp sc (fB f) s c th be qu 0 li mm) = some (some (.ref 13), hp sc (fB f) s c th be qu 0 li mm) := c76 (q := 0) (by decide)
      have c140 : RunM 14 [.ref 13] (hp sc (fB f) s c th be qu 0 li mm) = some (some (.int (oI (act f 0))), hp sc (fB f) s c th be qu 0 li mm) := c14 (q := 0) hX.1 (by decide)
      have iO0 : isO (hp sc (fB f) s c th be qu 0 li mm) 13 1 = true := iO (q := 0) (by decide)
      simp only [e58, s58_0, s58_0n, s58_1, s58_2, s58_5, s58_5n, s58_6, s58_9, Option.bind_some, Option.bind_none, Option.toList_some, Option.toList_none, List.nil_append, List.cons_append, ↓reduceIte, reduceCtorEq, cl1_i, cl1_r, cl1_n, cl1_0, cl1_J, okS_0, okS_1, okS_2, okS_3, okS_4, bB_0, bB_and, z_0, z_1, z_10, bB_t, bB_f, Bool.true_eq_false, Bool.false_eq_true, gT0, gT1, gT2, gT3, gT4, gT5, gT6, gF0, gF1, gF2, gF3, gF4, gS0, gS1, gC0, gC1, iT, iF, iS, iC, sT6_0, sT6_1, sF2, sF3, sF4_0, sF4_1, sS1, sC1, c3, hd]
      simp only [s58_12, s58_18, s58_18n, s58_19, s58_20, Option.bind_some, Option.bind_none, Option.toList_some, Option.toList_none, List.nil_append, List.cons_append, ↓reduceIte, reduceCtorEq, cl1_i, cl1_r, cl1_n, cl1_0, cl1_J, okS_0, okS_1, okS_2, okS_3, okS_4, bB_0, bB_and, z_0, z_1, z_10, bB_t, bB_f, Bool.true_eq_false, Bool.false_eq_true, gT0, gT1, gT2, gT3, gT4, gT5, gT6, gF0, gF1, gF2, gF3, gF4, gS0, gS1, gC0, gC1, iT, iF, iS, iC, sT6_0, sT6_1, sF2, sF3, sF4_0, sF4_1, sS1, sC1, c760]
      simp only [s58_23, s58_23n, s58_24, s58_24n, s58_25, s58_25n, s58_28, s58_28n, Option.bind_some, Option.bind_none, Option.toList_some, Option.toList_none, List.nil_append, List.cons_append, ↓reduceIte, reduceCtorEq, cl1_i, cl1_r, cl1_n, cl1_0, cl1_J, okS_0, okS_1, okS_2, okS_3, okS_4, bB_0, bB_and, z_0, z_1, z_10, bB_t, bB_f, Bool.true_eq_false, Bool.false_eq_true, gT0, gT1, gT2, gT3, gT4, gT5, gT6, gF0, gF1, gF2, gF3, gF4, gS0, gS1, gC0, gC1, iT, iF, iS, iC, sT6_0, sT6_1, sF2, sF3, sF4_0, sF4_1, sS1, sC1]
      simp only [s58_29, Option.bind_some, Option.bind_none, Option.toList_some, Option.toList_none, List.nil_append, List.cons_append, ↓reduceIte, reduceCtorEq, cl1_i, cl1_r, cl1_n, cl1_0, cl1_J, okS_0, okS_1, okS_2, okS_3, okS_4, bB_0, bB_and, z_0, z_1, z_10, bB_t, bB_f, Bool.true_eq_false, Bool.false_eq_true, gT0, gT1, gT2, gT3, gT4, gT5, gT6, gF0, gF1, gF2, gF3, gF4, gS0, gS1, gC0, gC1, iT, iF, iS, iC, sT6_0, sT6_1, sF2, sF3, sF4_0, sF4_1, sS1, sC1, iO0, c140]
    have hmd1 : ∀ (F : FlS) (s c : OpS) (th be qu : Nat → Int32) (mo : Int32) (li : Nat → LiS), RunM 113 [.ref 61] (hp sc F s c th be qu mo li (hM (mS f mt jl R O A))) = Run 113 20 [some (.ref 61), none, none, none, none, none, none] [.int (oI (act f 0))] (hp sc F s c th be qu mo li (hM (mS f false jl R O A))) := by
      intro F s c th be qu mo li
      have c960 := c96 (sc := sc) (F := F) (s := s) (c := c) (th := th) (be := be) (qu := qu) (mo := mo) (li := li) (f := f) (mt := false) (jl := jl) (R := R) (O := O) (A := A) hX.1 (q := 0) (by decide)
      rw [nI_0] at c960
      simp only [e113, s113_0, s113_0n, s113_1, s113_4, s113_10, s113_10n, s113_11, s113_12, s113_15, s113_15n, s113_16, Option.bind_some, Option.bind_none, Option.toList_some, Option.toList_none, List.nil_append, List.cons_append, ↓reduceIte, reduceCtorEq, cl1_i, cl1_r, cl1_n, cl1_0, cl1_J, okS_0, okS_1, okS_2, okS_3, okS_4, bB_0, bB_and, z_0, z_1, z_10, bB_t, bB_f, Bool.true_eq_false, Bool.false_eq_true, gT0, gT1, gT2, gT3, gT4, gT5, gT6, gF0, gF1, gF2, gF3, gF4, gS0, gS1, gC0, gC1, iT, iF, iS, iC, sT6_0, sT6_1, sF2, sF3, sF4_0, sF4_1, sS1, sC1, gM0, gM1, gM2, gM3, gM4, gM5, gM6, gM7, gM8, gM9, gM10, gM11, gM12, gM13, gM14, gM15, gM16, gM17, gM18, iM, sM5, sM6, sM11, sM12, sM13, sM14, sM16, sM18, sM2_0, sM2_1, sM3_0, sM3_1, sM4_0, sM4_1, mS_0, mS_1, mS_2, mS_3, mS_4, mS_5, mS_6, mS_7, mS_8, mS_9, mS_10, mS_11, mS_12, mS_13, mS_14, mS_15, mS_16, mS_17, mS_18, decide_true, decide_false, Bool.not_true, Bool.not_false, hd0]
      change Run 113 17 _ _ (hp sc F s c th be qu mo li (hM (mS f false jl R O A))) = _
      simp only [s113_17, Option.bind_some, Option.bind_none, Option.toList_some, Option.toList_none, List.nil_append, List.cons_append, ↓reduceIte, reduceCtorEq, cl1_i, cl1_r, cl1_n, cl1_0, cl1_J, okS_0, okS_1, okS_2, okS_3, okS_4, bB_0, bB_and, z_0, z_1, z_10, bB_t, bB_f, Bool.true_eq_false, Bool.false_eq_true, gT0, gT1, gT2, gT3, gT4, gT5, gT6, gF0, gF1, gF2, gF3, gF4, gS0, gS1, gC0, gC1, iT, iF, iS, iC, sT6_0, sT6_1, sF2, sF3, sF4_0, sF4_1, sS1, sC1, gM0, gM1, gM2, gM3, gM4, gM5, gM6, gM7, gM8, gM9, gM10, gM11, gM12, gM13, gM14, gM15, gM16, gM17, gM18, iM, sM5, sM6, sM11, sM12, sM13, sM14, sM16, sM18, sM2_0, sM2_1, sM3_0, sM3_1, sM4_0, sM4_1, mS_0, mS_1, mS_2, mS_3, mS_4, mS_5, mS_6, mS_7, mS_8, mS_9, mS_10, mS_11, mS_12, mS_13, mS_14, mS_15, mS_16, mS_17, mS_18, decide_true, decide_false, Bool.not_true, Bool.not_false, c960]
    cases hL0 : Lo 0 with
    | none =>
      have ha := hX.acN (q := 0) (by decide) hL0
      have hm1 : (-1 : Int32) < 0 := by decide
      refine ⟨some (.int (-7)), (hp sc (fB f) s c th be qu (bB (false)) li (hM (mS f mt jl R O A))), (hp sc (fB f) s c th be qu (bB (false)) li (hM (mS f (false) jl R O A))), hcl1.trans ?_, (hmd1 (fB f) s c th be qu 0 li).trans ?_, mkI hX hS (fun h => by cases h)⟩
      · simp only [ha, oI_n, s58_32, s58_33, s58_36, s58_38, Option.bind_some, Option.bind_none, Option.toList_some, Option.toList_none, List.nil_append, List.cons_append, ↓reduceIte, reduceCtorEq, cl1_i, cl1_r, cl1_n, cl1_0, cl1_J, okS_0, okS_1, okS_2, okS_3, okS_4, bB_0, bB_and, z_0, z_1, z_10, bB_t, bB_f, Bool.true_eq_false, Bool.false_eq_true, gT0, gT1, gT2, gT3, gT4, gT5, gT6, gF0, gF1, gF2, gF3, gF4, gS0, gS1, gC0, gC1, iT, iF, iS, iC, sT6_0, sT6_1, sF2, sF3, sF4_0, sF4_1, sS1, sC1, m1m1]
      · simp only [ha, oI_n, s113_20, s113_23, s113_25, Option.bind_some, Option.bind_none, Option.toList_some, Option.toList_none, List.nil_append, List.cons_append, ↓reduceIte, reduceCtorEq, cl1_i, cl1_r, cl1_n, cl1_0, cl1_J, okS_0, okS_1, okS_2, okS_3, okS_4, bB_0, bB_and, z_0, z_1, z_10, bB_t, bB_f, Bool.true_eq_false, Bool.false_eq_true, gT0, gT1, gT2, gT3, gT4, gT5, gT6, gF0, gF1, gF2, gF3, gF4, gS0, gS1, gC0, gC1, iT, iF, iS, iC, sT6_0, sT6_1, sF2, sF3, sF4_0, sF4_1, sS1, sC1, hm1]
    | some st0 =>
      obtain ⟨b0, hb0⟩ := hX.acS (q := 0) (by decide) hL0
      have hb31 : b0 < 2 ^ 31 := by have := act_lt (q := 0) (by decide) hb0; omega
      have hbp : ¬ nI b0 < 0 := nI_pos hb31
      -- the class loads and reaches
      obtain ⟨s1, li1, r1, hA⟩ := c80 (sc := sc) (f := f) (s := s) (c := c) (th := th) (be := be) (qu := qu) (mo := 0) (li := li) (mm := hM (mS f mt jl R O A)) hX
      obtain ⟨th1, qu1, r2, hT⟩ := c81t (sc := sc) (F := fB f) (s := s1) (c := c) (th := th) (be := be) (qu := qu) (mo := 0) (mm := hM (mS f mt jl R O A)) ⟨f, hX⟩ hA
      have hcl2 : RunM 58 [.ref 1] (hp sc (fB f) s c th be qu (bB mt) li (hM (mS f mt jl R O A))) = (RunM 82 [.ref 1] (hp sc (fB f) s1 c th1 be qu1 0 li1 (hM (mS f mt jl R O A)))).bind fun r => Run 58 57 [some (.ref 1), some (.ref 13)] (r.1.toList ++ [.ref 1]) r.2 := by
        refine hcl1.trans ?_
        simp only [hb0, oI_s, s58_32, s58_33, s58_39, s58_39n, s58_40, Option.bind_some, Option.bind_none, Option.toList_some, Option.toList_none, List.nil_append, List.cons_append, ↓reduceIte, reduceCtorEq, cl1_i, cl1_r, cl1_n, cl1_0, cl1_J, okS_0, okS_1, okS_2, okS_3, okS_4, bB_0, bB_and, z_0, z_1, z_10, bB_t, bB_f, Bool.true_eq_false, Bool.false_eq_true, gT0, gT1, gT2, gT3, gT4, gT5, gT6, gF0, gF1, gF2, gF3, gF4, gS0, gS1, gC0, gC1, iT, iF, iS, iC, sT6_0, sT6_1, sF2, sF3, sF4_0, sF4_1, sS1, sC1, m1_nI' hb31, r1]
        simp only [s58_43, s58_43n, s58_44, s58_45, s58_45n, s58_46, s58_49, Option.bind_some, Option.bind_none, Option.toList_some, Option.toList_none, List.nil_append, List.cons_append, ↓reduceIte, reduceCtorEq, cl1_i, cl1_r, cl1_n, cl1_0, cl1_J, okS_0, okS_1, okS_2, okS_3, okS_4, bB_0, bB_and, z_0, z_1, z_10, bB_t, bB_f, Bool.true_eq_false, Bool.false_eq_true, gT0, gT1, gT2, gT3, gT4, gT5, gT6, gF0, gF1, gF2, gF3, gF4, gS0, gS1, gC0, gC1, iT, iF, iS, iC, sT6_0, sT6_1, sF2, sF3, sF4_0, sF4_1, sS1, sC1, r2]
        simp only [s58_52, s58_52n, s58_53, s58_53n, s58_54, Option.bind_some, Option.bind_none, Option.toList_some, Option.toList_none, List.nil_append, List.cons_append, ↓reduceIte, reduceCtorEq, cl1_i, cl1_r, cl1_n, cl1_0, cl1_J, okS_0, okS_1, okS_2, okS_3, okS_4, bB_0, bB_and, z_0, z_1, z_10, bB_t, bB_f, Bool.true_eq_false, Bool.false_eq_true, gT0, gT1, gT2, gT3, gT4, gT5, gT6, gF0, gF1, gF2, gF3, gF4, gS0, gS1, gC0, gC1, iT, iF, iS, iC, sT6_0, sT6_1, sF2, sF3, sF4_0, sF4_1, sS1, sC1]
      -- the class behind a finished move
      have hcl3 : ∀ (g : FB) (Lo' : LO) (s c : OpS) (li' : Nat → LiS), IX g Lo' → LiA Lo' li' → ∃ th' qu', Run 58 60 [some (.ref 1), some (.ref 13)] [.int 1] (hp sc (fB g) s c th1 be qu1 0 li' (hM (mS f mt jl R O A))) = some (some (.int 0), hp sc (fB g) s c th' be qu' 1 li' (hM (mS f mt jl R O A))) ∧ ThS Lo' th' := by
        intro g Lo' s c li' hX' hA'
        obtain ⟨th', qu', r3, r4⟩ := c81t (sc := sc) (F := fB g) (s := s) (c := c) (th := th1) (be := be) (qu := qu1) (mo := 0) (mm := hM (mS f mt jl R O A)) ⟨g, hX'⟩ hA'
        refine ⟨th', qu', ?_, r4⟩
        simp only [s58_60, s58_66, s58_66n, s58_67, s58_68, s58_68n, s58_69, s58_72, Option.bind_some, Option.bind_none, Option.toList_some, Option.toList_none, List.nil_append, List.cons_append, ↓reduceIte, reduceCtorEq, cl1_i, cl1_r, cl1_n, cl1_0, cl1_J, okS_0, okS_1, okS_2, okS_3, okS_4, bB_0, bB_and, z_0, z_1, z_10, bB_t, bB_f, Bool.true_eq_false, Bool.false_eq_true, gT0, gT1, gT2, gT3, gT4, gT5, gT6, gF0, gF1, gF2, gF3, gF4, gS0, gS1, gC0, gC1, iT, iF, iS, iC, sT6_0, sT6_1, sF2, sF3, sF4_0, sF4_1, sS1, sC1, r3]
        simp only [s58_75, s58_75n, s58_76, s58_77, s58_80, s58_81, Option.bind_some, Option.bind_none, Option.toList_some, Option.toList_none, List.nil_append, List.cons_append, ↓reduceIte, reduceCtorEq, cl1_i, cl1_r, cl1_n, cl1_0, cl1_J, okS_0, okS_1, okS_2, okS_3, okS_4, bB_0, bB_and, z_0, z_1, z_10, bB_t, bB_f, Bool.true_eq_false, Bool.false_eq_true, gT0, gT1, gT2, gT3, gT4, gT5, gT6, gF0, gF1, gF2, gF3, gF4, gS0, gS1, gC0, gC1, iT, iF, iS, iC, sT6_0, sT6_1, sF2, sF3, sF4_0, sF4_1, sS1, sC1]
      have hcl4 : ∀ (h : AH), Run 58 60 [some (.ref 1), some (.ref 13)] [.int 0] h = some (some (.int (-9)), h) := by
        intro h
        simp only [s58_60, s58_63, s58_65, Option.bind_some, Option.bind_none, Option.toList_some, Option.toList_none, List.nil_append, List.cons_append, ↓reduceIte, reduceCtorEq, cl1_i, cl1_r, cl1_n, cl1_0, cl1_J, okS_0, okS_1, okS_2, okS_3, okS_4, bB_0, bB_and, z_0, z_1, z_10, bB_t, bB_f, Bool.true_eq_false, Bool.false_eq_true, gT0, gT1, gT2, gT3, gT4, gT5, gT6, gF0, gF1, gF2, gF3, gF4, gS0, gS1, gC0, gC1, iT, iF, iS, iC, sT6_0, sT6_1, sF2, sF3, sF4_0, sF4_1, sS1, sC1]
      -- the reference reaches
      have hs := (hX.rc (a := 0) (by decide)).1
      have hrc := (hX.rc (a := 0) (by decide)).2
      have hmd2 : ∀ (F : FlS) (s c : OpS) (th be qu : Nat → Int32) (mo : Int32) (li : Nat → LiS), ∃ R', RunM 113 [.ref 61] (hp sc F s c th be qu mo li (hM (mS f mt jl R O A))) = Run 113 34 [some (.ref 61), some (.int (nI (froS (lsO Lo) 0))), some (.int (nI 0)), none, none, none, none] [] (hp sc F s c th be qu mo li (hM (mS f false jl R' O A))) := by
        intro F s c th be qu mo li
        obtain ⟨R', r3⟩ := c108q (sc := sc) (F := F) (s := s) (c := c) (th := th) (be := be) (qu := qu) (mo := mo) (li := li) (f := f) (mt := false) (jl := jl) (R := R) (O := O) (A := A) hX (a := 0) (by decide)
        rw [nI_0] at r3
        refine ⟨R', (hmd1 F s c th be qu mo li).trans ?_⟩
        simp only [hb0, oI_s, s113_20, s113_26, s113_26n, s113_27, s113_28, Option.bind_some, Option.bind_none, Option.toList_some, Option.toList_none, List.nil_append, List.cons_append, ↓reduceIte, reduceCtorEq, cl1_i, cl1_r, cl1_n, cl1_0, cl1_J, okS_0, okS_1, okS_2, okS_3, okS_4, bB_0, bB_and, z_0, z_1, z_10, bB_t, bB_f, Bool.true_eq_false, Bool.false_eq_true, gT0, gT1, gT2, gT3, gT4, gT5, gT6, gF0, gF1, gF2, gF3, gF4, gS0, gS1, gC0, gC1, iT, iF, iS, iC, sT6_0, sT6_1, sF2, sF3, sF4_0, sF4_1, sS1, sC1, gM0, gM1, gM2, gM3, gM4, gM5, gM6, gM7, gM8, gM9, gM10, gM11, gM12, gM13, gM14, gM15, gM16, gM17, gM18, iM, sM5, sM6, sM11, sM12, sM13, sM14, sM16, sM18, sM2_0, sM2_1, sM3_0, sM3_1, sM4_0, sM4_1, mS_0, mS_1, mS_2, mS_3, mS_4, mS_5, mS_6, mS_7, mS_8, mS_9, mS_10, mS_11, mS_12, mS_13, mS_14, mS_15, mS_16, mS_17, mS_18, decide_true, decide_false, Bool.not_true, Bool.not_false, hbp, r3]
        simp only [s113_31, s113_32, s113_33, Option.bind_some, Option.bind_none, Option.toList_some, Option.toList_none, List.nil_append, List.cons_append, ↓reduceIte, reduceCtorEq, cl1_i, cl1_r, cl1_n, cl1_0, cl1_J, okS_0, okS_1, okS_2, okS_3, okS_4, bB_0, bB_and, z_0, z_1, z_10, bB_t, bB_f, Bool.true_eq_false, Bool.false_eq_true, gT0, gT1, gT2, gT3, gT4, gT5, gT6, gF0, gF1, gF2, gF3, gF4, gS0, gS1, gC0, gC1, iT, iF, iS, iC, sT6_0, sT6_1, sF2, sF3, sF4_0, sF4_1, sS1, sC1, nI_0]
      by_cases hmarked : ∃ m, m < 8 ∧ (froS (lsO Lo) 0).testBit m = true ∧ (lsO Lo m).2 ≠ none
      · obtain ⟨m, hm8, hmb, hmn⟩ := hmarked
        obtain ⟨⟨p, a⟩, hmk⟩ := Option.ne_none_iff_exists'.mp hmn
        have huni : ∀ x, Rch (lsO Lo) 0 x → x ≠ m → (lsO Lo x).2 = none := fun x hx hne => Classical.byContradiction fun h9 => hne (hS.2 x m hx ((hrc m).mp hmb) h9 hmn)
        have hMk := (hX.okL hm8).2.2.2 _ hmk
        have hp8 : p < 8 := hMk.1
        have ha99 : a ≤ 99 := hMk.2.2
        have hstm : ∃ st, Lo m = some st := by
          cases hL : Lo m with
          | none => rw [lsO, hL] at hmk; cases hmk
          | some st => exact ⟨st, rfl⟩
        obtain ⟨stm, hstm⟩ := hstm
        have hcl50 := k82s (sc := sc) (F := fB f) (s := s1) (c := c) (be := be) (qu := qu1) (mo := 0) (mm := hM (mS f mt jl R O A)) hX hT hA hm8 hmb hmk (fun x hx hb => huni x ((hrc x).mp hb) (by omega))
        have hcl5 : RunM 58 [.ref 1] (hp sc (fB f) s c th be qu (bB mt) li (hM (mS f mt jl R O A))) = (RunM 83 [.ref 1, .ref (13 + 6 * m)] (hp sc (fB f) s1 c th1 be qu1 0 li1 (hM (mS f mt jl R O A)))).bind fun r => Run 58 60 [some (.ref 1), some (.ref 13)] (r.1.toList ++ []) r.2 := by
          rw [hcl2, hcl50]
          simp only [s58_57, Option.bind_some, Option.bind_none, Option.toList_some, Option.toList_none, List.nil_append, List.cons_append, ↓reduceIte, reduceCtorEq, cl1_i, cl1_r, cl1_n, cl1_0, cl1_J, okS_0, okS_1, okS_2, okS_3, okS_4, bB_0, bB_and, z_0, z_1, z_10, bB_t, bB_f, Bool.true_eq_false, Bool.false_eq_true, gT0, gT1, gT2, gT3, gT4, gT5, gT6, gF0, gF1, gF2, gF3, gF4, gS0, gS1, gC0, gC1, iT, iF, iS, iC, sT6_0, sT6_1, sF2, sF3, sF4_0, sF4_1, sS1, sC1]
        have hmd3 : ∀ (F : FlS) (s c : OpS) (th be qu : Nat → Int32) (mo : Int32) (li : Nat → LiS), ∃ R' z3 z4 z5 z6, RunM 113 [.ref 61] (hp sc F s c th be qu mo li (hM (mS f mt jl R O A))) = Run 113 34 [some (.ref 61), some (.int (nI (froS (lsO Lo) 0))), some (.int (nI m)), z3, z4, z5, z6] [] (hp sc F s c th be qu mo li (hM (mS f false jl R' O A))) := by
          intro F s c th be qu mo li
          obtain ⟨R1, e1⟩ := hmd2 F s c th be qu mo li
          obtain ⟨R2, z3, z4, z5, z6, e2⟩ := k113 (sc := sc) (F := F) (s := s) (c := c) (th := th) (be := be) (qu := qu) (mo := mo) (li := li) (f := f) (mt := false) (jl := jl) (O := O) (A := A) hX hs m 0 R1 none none none none (by omega) (fun x _ hx hb => huni x ((hrc x).mp hb) (by omega))
          rw [Nat.zero_add] at e2
          exact ⟨R2, z3, z4, z5, z6, e1.trans e2⟩
        -- behind the finished move, both sides (g, Lo' with the mark gone)
        have last : ∀ (g : FB) (Lo' : LO) (stm' : Lst), g.2.2.2.2 = false → IX g Lo' → Sh Lo' → (∀ x, Rch (lsO Lo') 0 x → Rch (lsO Lo) 0 x) → (∀ x, (lsO Lo' x).2 = (lsO Lo x).2) → (∀ x, (Lo x).isSome = true → (Lo' x).isSome = true) → Lo' m = some stm' → ∀ (s9 c9 : OpS) (li9 : Nat → LiS) (y9 : Int32) (z9 : Option Value), LiA Lo' li9 → RunM 83 [.ref 1, .ref (13 + 6 * m)] (hp sc (fB f) s1 c th1 be qu1 0 li1 (hM (mS f mt jl R O A))) = Run 83 70 [some (.ref 1), some (.ref (13 + 6 * m)), some (.int y9), z9] [] (hp sc (fB g) s9 c9 th1 be qu1 0 li9 (hM (mS f mt jl R O A))) → (∀ (F : FlS) (s c : OpS) (th be qu : Nat → Int32) (mo : Int32) (li : Nat → LiS), ∃ R' O' A' z3 z4 z5 z6, RunM 113 [.ref 61] (hp sc F s c th be qu mo li (hM (mS f mt jl R O A))) = Run 113 156 [some (.ref 61), some (.int (nI (froS (lsO Lo) 0))), some (.int (nI m)), some (.int z3), some (.int z4), some (.int z5), some (.int z6)] [] (hp sc F s c th be qu mo li (hM (mS g false jl R' O' A')))) → ∃ v H1 H2, RunM 58 [.ref 1] (hp sc (fB f) s c th be qu (bB mt) li (hM (mS f mt jl R O A))) = some (v, H1) ∧ RunM 113 [.ref 61] H1 = some (v, H2) ∧ IV sc H1 H2 := by
          intro g Lo' stm' hdg hXg hSg hRg hMg hIg hstg s9 c9 li9 y9 z9 hAg e83 e113
          obtain ⟨l2, s2, k1, k2⟩ := k83C (sc := sc) (f := g) (s := s9) (c := c9) (th := th1) (be := be) (qu := qu1) (mo := 0) (mm := hM (mS f mt jl R O A)) hXg hAg hm8 hstg (y := y9) (z := z9)
          obtain ⟨x1, x2⟩ := hXg.cm hm8 hstg (FitN stm')
          obtain ⟨dk1, dk2⟩ := cmq_dark (f := g) (q := m) (os := nmO) (st := stm') hdg
          obtain ⟨n1, n2, n3, n4, n5⟩ := finN hSg hstg
          have hcl6 : RunM 58 [.ref 1] (hp sc (fB f) s c th be qu (bB mt) li (hM (mS f mt jl R O A))) = Run 58 60 [some (.ref 1), some (.ref 13)] [.int (bB (cmq g m nmO stm').1)] (hp sc (fB (cmq g m nmO stm').2) s2 (opf c9.1 (encS nmO)) th1 be qu1 0 (upL li9 m l2) (hM (mS f mt jl R O A))) := by
            rw [hcl5, e83, k1]
            simp only [Option.bind_some, Option.bind_none, Option.toList_some, Option.toList_none, List.nil_append, List.cons_append, ↓reduceIte, reduceCtorEq, cl1_i, cl1_r, cl1_n, cl1_0, cl1_J, okS_0, okS_1, okS_2, okS_3, okS_4, bB_0, bB_and, z_0, z_1, z_10, bB_t, bB_f, Bool.true_eq_false, Bool.false_eq_true, gT0, gT1, gT2, gT3, gT4, gT5, gT6, gF0, gF1, gF2, gF3, gF4, gS0, gS1, gC0, gC1, iT, iF, iS, iC, sT6_0, sT6_1, sF2, sF3, sF4_0, sF4_1, sS1, sC1]
          have hmd4 : ∀ (F : FlS) (s c : OpS) (th be qu : Nat → Int32) (mo : Int32) (li : Nat → LiS), ∃ R' O' A' z3 z4 z5 z6, RunM 113 [.ref 61] (hp sc F s c th be qu mo li (hM (mS f mt jl R O A))) = Run 113 171 [some (.ref 61), some (.int (nI (froS (lsO Lo) 0))), some (.int (nI m)), some (.int z3), some (.int z4), some (.int z5), some (.int z6)] [.int (bB (cmq g m nmO stm').1)] (hp sc F s c th be qu mo li (hM (mS (cmq g m nmO stm').2 false (jA (cmq g m nmO stm').1 jl) R' O' A'))) := by
            intro F s c th be qu mo li
            obtain ⟨R1, O1, A1, z3, z4, z5, z6, e1⟩ := e113 F s c th be qu mo li
            obtain ⟨R2, A2, e2⟩ := k113C (sc := sc) (F := F) (s := s) (c := c) (th := th) (be := be) (qu := qu) (mo := mo) (li := li) (f := g) (jl := jl) (R := R1) (O := O1) (A := A1) (z3 := some (.int z3)) (z4 := some (.int z4)) (z5 := some (.int z5)) (z6 := some (.int z6)) hdg hXg hm8 hstg (a1 := some (.int (nI (froS (lsO Lo) 0))))
            exact ⟨R2, _, A2, z3, z4, z5, z6, e1.trans e2⟩
          cases hr : (cmq g m nmO stm').1 with
          | false =>
            rw [hr] at hcl6 hmd4
            obtain ⟨R', O', A', z3, z4, z5, z6, m9⟩ := hmd4 (fB (cmq g m nmO stm').2) s2 (opf c9.1 (encS nmO)) th1 be qu1 0 (upL li9 m l2)
            refine ⟨some (.int (-9)), _, (hp sc (fB ((cmq g m nmO stm').2)) (s2) (opf c9.1 (encS nmO)) (th1) be (qu1) (bB (false)) (upL li9 m l2) (hM (mS ((cmq g m nmO stm').2) (false) (jA false jl) (R') (O') (A')))), hcl6.trans (hcl4 _), m9.trans ?_, mkI (x2 hr) hSg (fun h => by cases h)⟩
            simp only [s113_171, s113_174, s113_176, Option.bind_some, Option.bind_none, Option.toList_some, Option.toList_none, List.nil_append, List.cons_append, ↓reduceIte, reduceCtorEq, cl1_i, cl1_r, cl1_n, cl1_0, cl1_J, okS_0, okS_1, okS_2, okS_3, okS_4, bB_0, bB_and, z_0, z_1, z_10, bB_t, bB_f, Bool.true_eq_false, Bool.false_eq_true, gT0, gT1, gT2, gT3, gT4, gT5, gT6, gF0, gF1, gF2, gF3, gF4, gS0, gS1, gC0, gC1, iT, iF, iS, iC, sT6_0, sT6_1, sF2, sF3, sF4_0, sF4_1, sS1, sC1]
          | true =>
            have hX2 := x1 hr
            have hA2 : LiA (upO Lo' m (some (apS stm' nmO))) (upL li9 m l2) := hAg.up k2
            obtain ⟨th', qu', e3, hT2⟩ := hcl3 (cmq g m nmO stm').2 _ s2 (opf c9.1 (encS nmO)) (upL li9 m l2) hX2 hA2
            rw [hr] at hcl6 hmd4
            obtain ⟨R', O', A', z3, z4, z5, z6, m9⟩ := hmd4 (fB (cmq g m nmO stm').2) s2 (opf c9.1 (encS nmO)) th' be qu' 1 (upL li9 m l2)
            rw [jA_t] at m9
            have hnom : ∀ x, Rch (lsO Lo) 0 x → (lsO (upO Lo' m (some (apS stm' nmO))) x).2 = none := fun x hx => by
              by_cases hxm : x = m
              · subst hxm; exact n4
              · rw [n3 x hxm, hMg]; exact huni x hx hxm
            obtain ⟨R2, w3, w4, w5, w6, e4⟩ := k113 (sc := sc) (F := fB (cmq g m nmO stm').2) (s := s2) (c := opf c9.1 (encS nmO)) (th := th') (be := be) (qu := qu') (mo := 1) (li := upL li9 m l2) (f := (cmq g m nmO stm').2) (mt := false) (jl := jl) (O := O') (A := A') hX2 hs (7 - m) (m + 1) R' (some (.int z3)) (some (.int z4)) (some (.int z5)) (some (.int z6)) (by omega) (fun x _ hx hb => hnom x ((hrc x).mp hb))
            rw [show m + 1 + (7 - m) = 8 by omega] at e4
            refine ⟨some (.int 0), _, (hp sc (fB ((cmq g m nmO stm').2)) (s2) (opf c9.1 (encS nmO)) (th') be (qu') (bB (true)) (upL li9 m l2) (hM (mS ((cmq g m nmO stm').2) (true) jl (R2) (O') (A')))), hcl6.trans e3, m9.trans ?_, mkI hX2 n1 (fun _ => ⟨dk2 hr, n5 0 (hIg 0 (by rw [hL0]; rfl)), fun x hx => hnom x (hRg x (n2 x hx)), hA2, hT2⟩)⟩
            have e5 : Run 113 171 [some (.ref 61), some (.int (nI (froS (lsO Lo) 0))), some (.int (nI m)), some (.int z3), some (.int z4), some (.int z5), some (.int z6)] [.int (bB true)] (hp sc (fB (cmq g m nmO stm').2) s2 (opf c9.1 (encS nmO)) th' be qu' 1 (upL li9 m l2) (hM (mS (cmq g m nmO stm').2 false jl R' O' A'))) = Run 113 34 [some (.ref 61), some (.int (nI (froS (lsO Lo) 0))), some (.int (nI (m + 1))), some (.int z3), some (.int z4), some (.int z5), some (.int z6)] [] (hp sc (fB (cmq g m nmO stm').2) s2 (opf c9.1 (encS nmO)) th' be qu' 1 (upL li9 m l2) (hM (mS (cmq g m nmO stm').2 false jl R' O' A'))) := by
              simp only [s113_171, s113_177, s113_180, Option.bind_some, Option.bind_none, Option.toList_some, Option.toList_none, List.nil_append, List.cons_append, ↓reduceIte, reduceCtorEq, cl1_i, cl1_r, cl1_n, cl1_0, cl1_J, okS_0, okS_1, okS_2, okS_3, okS_4, bB_0, bB_and, z_0, z_1, z_10, bB_t, bB_f, Bool.true_eq_false, Bool.false_eq_true, gT0, gT1, gT2, gT3, gT4, gT5, gT6, gF0, gF1, gF2, gF3, gF4, gS0, gS1, gC0, gC1, iT, iF, iS, iC, sT6_0, sT6_1, sF2, sF3, sF4_0, sF4_1, sS1, sC1, nI_1]
            rw [e5, e4]
            exact k113E
        by_cases hhas : (froS (lsO Lo) 0).testBit p = true ∧ fiE (lsO Lo p).1 (nI a) ≠ none
        · obtain ⟨hpb, hfd⟩ := hhas
          have hstp : ∃ st, Lo p = some st := by
            cases hL : Lo p with
            | none =>
              rw [lsO, hL] at hfd
              exact absurd rfl hfd
            | some st => exact ⟨st, rfl⟩
          obtain ⟨stp, hstp⟩ := hstp
          rw [lsO_of hstp] at hfd
          obtain ⟨l2, s2, k1, k2⟩ := k83A (sc := sc) (f := f) (s := s1) (c := c) (be := be) (qu := qu1) (mo := 0) (mm := hM (mS f mt jl R O A)) hX hT hA hm8 hmk hpb hstp hfd
          obtain ⟨x1, x2⟩ := hX.cm hp8 hstp (FitG stp ha99)
          obtain ⟨dk1, dk2⟩ := cmq_dark (f := f) (q := p) (os := gnO a) (st := stp) hd
          obtain ⟨n1, n2, n3, n4⟩ := finG (a := a) hS hstp
          have hmd5 : ∀ (F : FlS) (s c : OpS) (th be qu : Nat → Int32) (mo : Int32) (li : Nat → LiS), ∃ R' O' A' z3, RunM 113 [.ref 61] (hp sc F s c th be qu mo li (hM (mS f mt jl R O A))) = Run 113 150 [some (.ref 61), some (.int (nI (froS (lsO Lo) 0))), some (.int (nI m)), some (.int z3), some (.int (nI p)), some (.int (nI a)), some (.int 1)] [.int (bB (cmq f p (gnO a) stp).1)] (hp sc F s c th be qu mo li (hM (mS (cmq f p (gnO a) stp).2 false (jA (cmq f p (gnO a) stp).1 jl) R' O' A'))) := by
            intro F s c th be qu mo li
            obtain ⟨R1, z3, z4, z5, z6, e1⟩ := hmd3 F s c th be qu mo li
            obtain ⟨R2, A2, y, e2⟩ := k113A (sc := sc) (F := F) (s := s) (c := c) (th := th) (be := be) (qu := qu) (mo := mo) (li := li) (f := f) (jl := jl) (R := R1) (O := O) (A := A) (z3 := z3) (z4 := z4) (z5 := z5) (z6 := z6) hd hX hs hm8 hmb hmk hpb hstp hfd
            exact ⟨R2, _, A2, y, e1.trans e2⟩
          cases hr : (cmq f p (gnO a) stp).1 with
          | false =>
            rw [hr] at hmd5 k1
            obtain ⟨R', O', A', z3, m9⟩ := hmd5 (fB (cmq f p (gnO a) stp).2) s2 (opf c.1 (encS (gnO a))) th1 be qu1 0 (upL li1 p l2)
            refine ⟨some (.int (-9)), (hp sc (fB ((cmq f p (gnO a) stp).2)) (s2) (opf c.1 (encS (gnO a))) (th1) be (qu1) (bB (false)) (upL li1 p l2) (hM (mS f (mt) jl R O A))), (hp sc (fB ((cmq f p (gnO a) stp).2)) (s2) (opf c.1 (encS (gnO a))) (th1) be (qu1) (bB (false)) (upL li1 p l2) (hM (mS ((cmq f p (gnO a) stp).2) (false) (jA false jl) (R') (O') (A')))), ?_, m9.trans ?_, mkI (x2 hr) hS (fun h => by cases h)⟩
            · rw [hcl5, k1]
              simp only [s83_65, s83_68, s83_69, Option.bind_some, Option.bind_none, Option.toList_some, Option.toList_none, List.nil_append, List.cons_append, ↓reduceIte, reduceCtorEq, cl1_i, cl1_r, cl1_n, cl1_0, cl1_J, okS_0, okS_1, okS_2, okS_3, okS_4, bB_0, bB_and, z_0, z_1, z_10, bB_t, bB_f, Bool.true_eq_false, Bool.false_eq_true, gT0, gT1, gT2, gT3, gT4, gT5, gT6, gF0, gF1, gF2, gF3, gF4, gS0, gS1, gC0, gC1, iT, iF, iS, iC, sT6_0, sT6_1, sF2, sF3, sF4_0, sF4_1, sS1, sC1]
              exact hcl4 _
            · simp only [s113_150, s113_153, s113_155, Option.bind_some, Option.bind_none, Option.toList_some, Option.toList_none, List.nil_append, List.cons_append, ↓reduceIte, reduceCtorEq, cl1_i, cl1_r, cl1_n, cl1_0, cl1_J, okS_0, okS_1, okS_2, okS_3, okS_4, bB_0, bB_and, z_0, z_1, z_10, bB_t, bB_f, Bool.true_eq_false, Bool.false_eq_true, gT0, gT1, gT2, gT3, gT4, gT5, gT6, gF0, gF1, gF2, gF3, gF4, gS0, gS1, gC0, gC1, iT, iF, iS, iC, sT6_0, sT6_1, sF2, sF3, sF4_0, sF4_1, sS1, sC1]
          | true =>
            rw [hr] at hmd5 k1
            have hX1 := x1 hr
            have hstm1 : ∃ st', upO Lo p (some (apS stp (gnO a))) m = some st' := by
              have := n4 m (by rw [hstm]; rfl)
              exact Option.isSome_iff_exists.mp this
            obtain ⟨stm1, hstm1⟩ := hstm1
            refine last (cmq f p (gnO a) stp).2 _ stm1 (dk2 hr) hX1 n1 n2 n3 n4 hstm1 s2 (opf c.1 (encS (gnO a))) (upL li1 p l2) (nI a) (some (.ref (13 + 6 * p))) (hA.up k2) ?_ ?_
            · rw [k1]
              simp only [s83_65, Option.bind_some, Option.bind_none, Option.toList_some, Option.toList_none, List.nil_append, List.cons_append, ↓reduceIte, reduceCtorEq, cl1_i, cl1_r, cl1_n, cl1_0, cl1_J, okS_0, okS_1, okS_2, okS_3, okS_4, bB_0, bB_and, z_0, z_1, z_10, bB_t, bB_f, Bool.true_eq_false, Bool.false_eq_true, gT0, gT1, gT2, gT3, gT4, gT5, gT6, gF0, gF1, gF2, gF3, gF4, gS0, gS1, gC0, gC1, iT, iF, iS, iC, sT6_0, sT6_1, sF2, sF3, sF4_0, sF4_1, sS1, sC1]
            · intro F s c th be qu mo li
              obtain ⟨R', O', A', z3, m9⟩ := hmd5 F s c th be qu mo li
              refine ⟨R', O', A', z3, nI p, nI a, 1, m9.trans ?_⟩
              simp only [s113_150, Option.bind_some, Option.bind_none, Option.toList_some, Option.toList_none, List.nil_append, List.cons_append, ↓reduceIte, reduceCtorEq, cl1_i, cl1_r, cl1_n, cl1_0, cl1_J, okS_0, okS_1, okS_2, okS_3, okS_4, bB_0, bB_and, z_0, z_1, z_10, bB_t, bB_f, Bool.true_eq_false, Bool.false_eq_true, gT0, gT1, gT2, gT3, gT4, gT5, gT6, gF0, gF1, gF2, gF3, gF4, gS0, gS1, gC0, gC1, iT, iF, iS, iC, sT6_0, sT6_1, sF2, sF3, sF4_0, sF4_1, sS1, sC1, jA_t]
        · have hn : (froS (lsO Lo) 0).testBit p = true → fiE (lsO Lo p).1 (nI a) = none := fun h => Classical.byContradiction fun h9 => hhas ⟨h, h9⟩
          obtain ⟨z9, k1⟩ := k83B (sc := sc) (F := fB f) (s := s1) (c := c) (be := be) (qu := qu1) (mo := 0) (mm := hM (mS f mt jl R O A)) hX hT hA hm8 hmk hn
          refine last f Lo stm hd hX hS (fun x h => h) (fun x => rfl) (fun x h => h) hstm s1 c li1 (nI a) z9 hA k1 ?_
          intro F s c th be qu mo li
          obtain ⟨R1, z3, z4, z5, z6, e1⟩ := hmd3 F s c th be qu mo li
          obtain ⟨R2, y, e2⟩ := k113B (sc := sc) (F := F) (s := s) (c := c) (th := th) (be := be) (qu := qu) (mo := mo) (li := li) (f := f) (mt := false) (jl := jl) (R := R1) (O := O) (A := A) (z3 := z3) (z4 := z4) (z5 := z5) (z6 := z6) hX hs hm8 hmb hmk hn
          exact ⟨R2, O, A, y, nI p, nI a, 0, e1.trans e2⟩
      · have hnom : ∀ x, Rch (lsO Lo) 0 x → (lsO Lo x).2 = none := fun x hx => Classical.byContradiction fun h9 => hmarked ⟨x, hX.lt (by decide) hx, (hrc x).mpr hx, h9⟩
        have hcl5 := k82n (sc := sc) (F := fB f) (s := s1) (c := c) (be := be) (qu := qu1) (mo := 0) (mm := hM (mS f mt jl R O A)) hX hT hA (fun x _ hb => hnom x ((hrc x).mp hb))
        obtain ⟨th', qu', e3, hT2⟩ := hcl3 f Lo s1 c li1 hX hA
        obtain ⟨R1, e1⟩ := hmd2 (fB f) s1 c th' be qu' 1 li1
        obtain ⟨R2, z3, z4, z5, z6, e2⟩ := k113 (sc := sc) (F := fB f) (s := s1) (c := c) (th := th') (be := be) (qu := qu') (mo := 1) (li := li1) (f := f) (mt := false) (jl := jl) (O := O) (A := A) hX hs 8 0 R1 none none none none (by omega) (fun x _ _ hb => hnom x ((hrc x).mp hb))
        refine ⟨some (.int 0), (hp sc (fB f) (s1) c (th') be (qu') (bB (true)) (li1) (hM (mS f (mt) jl R O A))), (hp sc (fB f) (s1) c (th') be (qu') (bB (true)) (li1) (hM (mS f (true) jl (R2) O A))), ?_, ?_, mkI hX hS (fun _ => ⟨hd, by rw [hL0]; rfl, hnom, hA, hT2⟩)⟩
        · rw [hcl2, hcl5]
          simp only [s58_57n, k83n, Option.bind_some, Option.bind_none, Option.toList_some, Option.toList_none, List.nil_append, List.cons_append, ↓reduceIte, reduceCtorEq, cl1_i, cl1_r, cl1_n, cl1_0, cl1_J, okS_0, okS_1, okS_2, okS_3, okS_4, bB_0, bB_and, z_0, z_1, z_10, bB_t, bB_f, Bool.true_eq_false, Bool.false_eq_true, gT0, gT1, gT2, gT3, gT4, gT5, gT6, gF0, gF1, gF2, gF3, gF4, gS0, gS1, gC0, gC1, iT, iF, iS, iC, sT6_0, sT6_1, sF2, sF3, sF4_0, sF4_1, sS1, sC1]
          exact e3
        · exact (e1.trans e2).trans k113E
end BMN
