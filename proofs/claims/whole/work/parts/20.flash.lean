/-! ===== Flash: the memory ===== -/
abbrev FB : Type := (Nat → Int32) × (Nat → Int32) × Int32 × Int32 × Bool
def fB (f : FB) : FlS := (f.1, f.2.1, f.2.2.1, f.2.2.2.1, bB f.2.2.2.2)
theorem fB_0 (f : FB) : (fB f).1 = f.1 := rfl
theorem fB_1 (f : FB) : (fB f).2.1 = f.2.1 := rfl
theorem fB_2 (f : FB) : (fB f).2.2.1 = f.2.2.1 := rfl
theorem fB_3 (f : FB) : (fB f).2.2.2.1 = f.2.2.2.1 := rfl
theorem fB_4 (f : FB) : (fB f).2.2.2.2 = bB f.2.2.2.2 := rfl
def spd (f : FB) : Bool × FB := if f.2.2.2.1 = 0 then (false, (f.1, f.2.1, f.2.2.1, -1, true)) else if f.2.2.2.2 = true then (false, f) else (true, (f.1, f.2.1, f.2.2.1 + 1, (if 0 < f.2.2.2.1 then f.2.2.2.1 - 1 else f.2.2.2.1), f.2.2.2.2))
def pk (f : FB) (b o : Int32) : Int32 := if inB b 16 = true ∧ inB o 64 = true then f.1 (b.toNatClampNeg * 64 + o.toNatClampNeg) else -1
theorem ix_nI {b o : Nat} : nI b * 64 + nI o = nI (b * 64 + o) := by
  show nI b * nI 64 + nI o = _
  rw [pk_mul, nI_add]
section FLASH
variable {sc : AC} {f : FB} {s c : OpS} {th be qu : Nat → Int32} {mo : Int32} {li : Nat → LiS} {mm : AH}
theorem c11 {b : Int32} {h : AH} : RunM 11 [.int b] h = some (some (.int (bB (inB b 16))), h) := by
  simp only [e11, s11_0, s11_1, s11_4, s11_5, s11_7, s11_10, s11_11, s11_14, s11_15, Option.bind_some, Option.bind_none, Option.toList_some, Option.toList_none, List.nil_append, List.cons_append, ↓reduceIte, reduceCtorEq, cl1_i, cl1_r, cl1_n, cl1_0, cl1_J, okS_0, okS_1, okS_2, okS_3, okS_4, bB_0, bB_and, z_0, z_1, z_10, bB_t, bB_f, Bool.true_eq_false, Bool.false_eq_true, gT0, gT1, gT2, gT3, gT4, gT5, gT6, gF0, gF1, gF2, gF3, gF4, gS0, gS1, gC0, gC1, iT, iF, iS, iC, sT6_0, sT6_1, sF2, sF3, sF4_0, sF4_1, sS1, sC1]
  by_cases h1 : b < 0
  · rw [if_pos h1, inB_f1 h1]; rfl
  · by_cases h2 : b < 16
    · rw [if_neg h1, if_pos h2, inB_t (n := 16) rfl h1 h2]; rfl
    · rw [if_neg h1, if_neg h2, inB_f2 (n := 16) rfl h2]; rfl
theorem c12 {b : Int32} {h : AH} : RunM 12 [.int b] h = some (some (.int (bB (inB b 64))), h) := by
  simp only [e12, s12_0, s12_1, s12_4, s12_5, s12_7, s12_10, s12_11, s12_14, s12_15, Option.bind_some, Option.bind_none, Option.toList_some, Option.toList_none, List.nil_append, List.cons_append, ↓reduceIte, reduceCtorEq, cl1_i, cl1_r, cl1_n, cl1_0, cl1_J, okS_0, okS_1, okS_2, okS_3, okS_4, bB_0, bB_and, z_0, z_1, z_10, bB_t, bB_f, Bool.true_eq_false, Bool.false_eq_true, gT0, gT1, gT2, gT3, gT4, gT5, gT6, gF0, gF1, gF2, gF3, gF4, gS0, gS1, gC0, gC1, iT, iF, iS, iC, sT6_0, sT6_1, sF2, sF3, sF4_0, sF4_1, sS1, sC1]
  by_cases h1 : b < 0
  · rw [if_pos h1, inB_f1 h1]; rfl
  · by_cases h2 : b < 64
    · rw [if_neg h1, if_pos h2, inB_t (n := 64) rfl h1 h2]; rfl
    · rw [if_neg h1, if_neg h2, inB_f2 (n := 64) rfl h2]; rfl
theorem c1 {k : Int32} : RunM 1 [.ref 2, .int k] (hp sc (fB f) s c th be qu mo li mm) = some (none, (hp sc (fB (f.1, f.2.1, f.2.2.1, (if k < 0 then -1 else k), f.2.2.2.2)) s c th be qu mo li mm)) := by
  simp only [e1, s1_0, s1_0n, s1_1, s1_2, s1_5, s1_6, s1_9, s1_10, s1_13, Option.bind_some, Option.bind_none, Option.toList_some, Option.toList_none, List.nil_append, List.cons_append, ↓reduceIte, reduceCtorEq, cl1_i, cl1_r, cl1_n, cl1_0, cl1_J, okS_0, okS_1, okS_2, okS_3, okS_4, bB_0, bB_and, z_0, z_1, z_10, bB_t, bB_f, Bool.true_eq_false, Bool.false_eq_true, gT0, gT1, gT2, gT3, gT4, gT5, gT6, gF0, gF1, gF2, gF3, gF4, gS0, gS1, gC0, gC1, iT, iF, iS, iC, sT6_0, sT6_1, sF2, sF3, sF4_0, sF4_1, sS1, sC1]
  by_cases h1 : k < 0
  · rw [if_pos h1, if_pos h1]; rfl
  · rw [if_neg h1, if_neg h1]; rfl
theorem c2 : RunM 2 [.ref 2] (hp sc (fB f) s c th be qu mo li mm) = some (none, (hp sc (fB (f.1, f.2.1, f.2.2.1, f.2.2.2.1, false)) s c th be qu mo li mm)) := by
  simp only [e2, s2_0, s2_0n, s2_1, s2_2, s2_5, Option.bind_some, Option.bind_none, Option.toList_some, Option.toList_none, List.nil_append, List.cons_append, ↓reduceIte, reduceCtorEq, cl1_i, cl1_r, cl1_n, cl1_0, cl1_J, okS_0, okS_1, okS_2, okS_3, okS_4, bB_0, bB_and, z_0, z_1, z_10, bB_t, bB_f, Bool.true_eq_false, Bool.false_eq_true, gT0, gT1, gT2, gT3, gT4, gT5, gT6, gF0, gF1, gF2, gF3, gF4, gS0, gS1, gC0, gC1, iT, iF, iS, iC, sT6_0, sT6_1, sF2, sF3, sF4_0, sF4_1, sS1, sC1]
  rfl
theorem c3 : RunM 3 [.ref 2] (hp sc (fB f) s c th be qu mo li mm) = some (some (.int (bB f.2.2.2.2)), (hp sc (fB f) s c th be qu mo li mm)) := by
  simp only [e3, s3_0, s3_0n, s3_1, s3_4, Option.bind_some, Option.bind_none, Option.toList_some, Option.toList_none, List.nil_append, List.cons_append, ↓reduceIte, reduceCtorEq, cl1_i, cl1_r, cl1_n, cl1_0, cl1_J, okS_0, okS_1, okS_2, okS_3, okS_4, bB_0, bB_and, z_0, z_1, z_10, bB_t, bB_f, Bool.true_eq_false, Bool.false_eq_true, gT0, gT1, gT2, gT3, gT4, gT5, gT6, gF0, gF1, gF2, gF3, gF4, gS0, gS1, gC0, gC1, iT, iF, iS, iC, sT6_0, sT6_1, sF2, sF3, sF4_0, sF4_1, sS1, sC1, fB_4]
theorem c4 : RunM 4 [.ref 2] (hp sc (fB f) s c th be qu mo li mm) = some (some (.int f.2.2.1), (hp sc (fB f) s c th be qu mo li mm)) := by
  simp only [e4, s4_0, s4_0n, s4_1, s4_4, Option.bind_some, Option.bind_none, Option.toList_some, Option.toList_none, List.nil_append, List.cons_append, ↓reduceIte, reduceCtorEq, cl1_i, cl1_r, cl1_n, cl1_0, cl1_J, okS_0, okS_1, okS_2, okS_3, okS_4, bB_0, bB_and, z_0, z_1, z_10, bB_t, bB_f, Bool.true_eq_false, Bool.false_eq_true, gT0, gT1, gT2, gT3, gT4, gT5, gT6, gF0, gF1, gF2, gF3, gF4, gS0, gS1, gC0, gC1, iT, iF, iS, iC, sT6_0, sT6_1, sF2, sF3, sF4_0, sF4_1, sS1, sC1, fB_2]
theorem c5 {b : Int32} : RunM 5 [.ref 2, .int b] (hp sc (fB f) s c th be qu mo li mm) = some (some (.int (if inB b 16 = true then f.2.1 b.toNatClampNeg else -1)), (hp sc (fB f) s c th be qu mo li mm)) := by
  by_cases h1 : inB b 16 = true
  · simp only [e5, s5_0, s5_1, s5_4, s5_7, s5_7n, s5_8, s5_11, s5_12, s5_13, s5_16, s5_17, Option.bind_some, Option.bind_none, Option.toList_some, Option.toList_none, List.nil_append, List.cons_append, ↓reduceIte, reduceCtorEq, cl1_i, cl1_r, cl1_n, cl1_0, cl1_J, okS_0, okS_1, okS_2, okS_3, okS_4, bB_0, bB_and, z_0, z_1, z_10, bB_t, bB_f, Bool.true_eq_false, Bool.false_eq_true, gT0, gT1, gT2, gT3, gT4, gT5, gT6, gF0, gF1, gF2, gF3, gF4, gS0, gS1, gC0, gC1, iT, iF, iS, iC, sT6_0, sT6_1, sF2, sF3, sF4_0, sF4_1, sS1, sC1, c11, h1, a4 h1, fB_1]
  · have h2 : inB b 16 = false := by simpa using h1
    simp only [e5, s5_0, s5_1, s5_4, s5_7, s5_7n, s5_8, s5_11, s5_12, s5_13, s5_16, s5_17, Option.bind_some, Option.bind_none, Option.toList_some, Option.toList_none, List.nil_append, List.cons_append, ↓reduceIte, reduceCtorEq, cl1_i, cl1_r, cl1_n, cl1_0, cl1_J, okS_0, okS_1, okS_2, okS_3, okS_4, bB_0, bB_and, z_0, z_1, z_10, bB_t, bB_f, Bool.true_eq_false, Bool.false_eq_true, gT0, gT1, gT2, gT3, gT4, gT5, gT6, gF0, gF1, gF2, gF3, gF4, gS0, gS1, gC0, gC1, iT, iF, iS, iC, sT6_0, sT6_1, sF2, sF3, sF4_0, sF4_1, sS1, sC1, c11, h2]
theorem c6 {b o : Int32} : RunM 6 [.ref 2, .int b, .int o] (hp sc (fB f) s c th be qu mo li mm) = some (some (.int (pk f b o)), (hp sc (fB f) s c th be qu mo li mm)) := by
  by_cases h1 : inB b 16 = true
  · by_cases h2 : inB o 64 = true
    · obtain ⟨k, hk, rfl⟩ := inB_of h1 (by decide)
      obtain ⟨j, hj, rfl⟩ := inB_of h2 (by decide)
      have h3 : inB (nI k * 64 + nI j) 1024 = true := by rw [ix_nI]; exact inB_nI (by omega) (by decide)
      simp only [e6, s6_0, s6_1, s6_4, s6_7, s6_8, s6_11, s6_14, s6_14n, s6_15, s6_18, s6_19, s6_21, s6_22, s6_23, s6_24, s6_25, s6_28, s6_29, Option.bind_some, Option.bind_none, Option.toList_some, Option.toList_none, List.nil_append, List.cons_append, ↓reduceIte, reduceCtorEq, cl1_i, cl1_r, cl1_n, cl1_0, cl1_J, okS_0, okS_1, okS_2, okS_3, okS_4, bB_0, bB_and, z_0, z_1, z_10, bB_t, bB_f, Bool.true_eq_false, Bool.false_eq_true, gT0, gT1, gT2, gT3, gT4, gT5, gT6, gF0, gF1, gF2, gF3, gF4, gS0, gS1, gC0, gC1, iT, iF, iS, iC, sT6_0, sT6_1, sF2, sF3, sF4_0, sF4_1, sS1, sC1, c11, c12, h1, h2, a3 h3, fB_0]
      rw [ix_nI, nI_clamp (by omega), pk, if_pos ⟨h1, h2⟩, nI_clamp (by omega), nI_clamp (by omega)]
    · have h3 : inB o 64 = false := by simpa using h2
      simp only [e6, s6_0, s6_1, s6_4, s6_7, s6_8, s6_11, s6_14, s6_14n, s6_15, s6_18, s6_19, s6_21, s6_22, s6_23, s6_24, s6_25, s6_28, s6_29, Option.bind_some, Option.bind_none, Option.toList_some, Option.toList_none, List.nil_append, List.cons_append, ↓reduceIte, reduceCtorEq, cl1_i, cl1_r, cl1_n, cl1_0, cl1_J, okS_0, okS_1, okS_2, okS_3, okS_4, bB_0, bB_and, z_0, z_1, z_10, bB_t, bB_f, Bool.true_eq_false, Bool.false_eq_true, gT0, gT1, gT2, gT3, gT4, gT5, gT6, gF0, gF1, gF2, gF3, gF4, gS0, gS1, gC0, gC1, iT, iF, iS, iC, sT6_0, sT6_1, sF2, sF3, sF4_0, sF4_1, sS1, sC1, c11, c12, h1, h3]
      rw [pk, if_neg (fun q => h2 q.2)]
  · have h3 : inB b 16 = false := by simpa using h1
    simp only [e6, s6_0, s6_1, s6_4, s6_7, s6_8, s6_11, s6_14, s6_14n, s6_15, s6_18, s6_19, s6_21, s6_22, s6_23, s6_24, s6_25, s6_28, s6_29, Option.bind_some, Option.bind_none, Option.toList_some, Option.toList_none, List.nil_append, List.cons_append, ↓reduceIte, reduceCtorEq, cl1_i, cl1_r, cl1_n, cl1_0, cl1_J, okS_0, okS_1, okS_2, okS_3, okS_4, bB_0, bB_and, z_0, z_1, z_10, bB_t, bB_f, Bool.true_eq_false, Bool.false_eq_true, gT0, gT1, gT2, gT3, gT4, gT5, gT6, gF0, gF1, gF2, gF3, gF4, gS0, gS1, gC0, gC1, iT, iF, iS, iC, sT6_0, sT6_1, sF2, sF3, sF4_0, sF4_1, sS1, sC1, c11, c12, h3]
    rw [pk, if_neg (fun q => h1 q.1)]
theorem c10 : RunM 10 [.ref 2] (hp sc (fB f) s c th be qu mo li mm) = some (some (.int (bB (spd f).1)), (hp sc (fB (spd f).2) s c th be qu mo li mm)) := by
  obtain ⟨cl, er, dn, lf, dk⟩ := f
  by_cases h0 : lf = 0
  · subst h0
    simp only [e10, s10_0, s10_0n, s10_1, s10_4, s10_7, s10_7n, s10_8, s10_9, s10_12, s10_12n, s10_13, s10_14, s10_17, s10_17n, s10_18, s10_21, s10_24, s10_25, s10_26, s10_26n, s10_27, s10_30, s10_33, s10_33n, s10_34, s10_35, s10_38, s10_39, s10_40, s10_43, s10_43n, s10_44, s10_45, s10_48, s10_49, s10_50, s10_53, s10_54, Option.bind_some, Option.bind_none, Option.toList_some, Option.toList_none, List.nil_append, List.cons_append, ↓reduceIte, reduceCtorEq, cl1_i, cl1_r, cl1_n, cl1_0, cl1_J, okS_0, okS_1, okS_2, okS_3, okS_4, bB_0, bB_and, z_0, z_1, z_10, bB_t, bB_f, Bool.true_eq_false, Bool.false_eq_true, gT0, gT1, gT2, gT3, gT4, gT5, gT6, gF0, gF1, gF2, gF3, gF4, gS0, gS1, gC0, gC1, iT, iF, iS, iC, sT6_0, sT6_1, sF2, sF3, sF4_0, sF4_1, sS1, sC1, fB_2, fB_3, fB_4, spd]
    rfl
  · cases dk with
    | true =>
      simp only [e10, s10_0, s10_0n, s10_1, s10_4, s10_7, s10_7n, s10_8, s10_9, s10_12, s10_12n, s10_13, s10_14, s10_17, s10_17n, s10_18, s10_21, s10_24, s10_25, s10_26, s10_26n, s10_27, s10_30, s10_33, s10_33n, s10_34, s10_35, s10_38, s10_39, s10_40, s10_43, s10_43n, s10_44, s10_45, s10_48, s10_49, s10_50, s10_53, s10_54, Option.bind_some, Option.bind_none, Option.toList_some, Option.toList_none, List.nil_append, List.cons_append, ↓reduceIte, reduceCtorEq, cl1_i, cl1_r, cl1_n, cl1_0, cl1_J, okS_0, okS_1, okS_2, okS_3, okS_4, bB_0, bB_and, z_0, z_1, z_10, bB_t, bB_f, Bool.true_eq_false, Bool.false_eq_true, gT0, gT1, gT2, gT3, gT4, gT5, gT6, gF0, gF1, gF2, gF3, gF4, gS0, gS1, gC0, gC1, iT, iF, iS, iC, sT6_0, sT6_1, sF2, sF3, sF4_0, sF4_1, sS1, sC1, fB_2, fB_3, fB_4, spd, h0]
    | false =>
      by_cases h1 : 0 < lf
      · simp only [e10, s10_0, s10_0n, s10_1, s10_4, s10_7, s10_7n, s10_8, s10_9, s10_12, s10_12n, s10_13, s10_14, s10_17, s10_17n, s10_18, s10_21, s10_24, s10_25, s10_26, s10_26n, s10_27, s10_30, s10_33, s10_33n, s10_34, s10_35, s10_38, s10_39, s10_40, s10_43, s10_43n, s10_44, s10_45, s10_48, s10_49, s10_50, s10_53, s10_54, Option.bind_some, Option.bind_none, Option.toList_some, Option.toList_none, List.nil_append, List.cons_append, ↓reduceIte, reduceCtorEq, cl1_i, cl1_r, cl1_n, cl1_0, cl1_J, okS_0, okS_1, okS_2, okS_3, okS_4, bB_0, bB_and, z_0, z_1, z_10, bB_t, bB_f, Bool.true_eq_false, Bool.false_eq_true, gT0, gT1, gT2, gT3, gT4, gT5, gT6, gF0, gF1, gF2, gF3, gF4, gS0, gS1, gC0, gC1, iT, iF, iS, iC, sT6_0, sT6_1, sF2, sF3, sF4_0, sF4_1, sS1, sC1, fB_2, fB_3, fB_4, spd, h0, h1]
        rfl
      · simp only [e10, s10_0, s10_0n, s10_1, s10_4, s10_7, s10_7n, s10_8, s10_9, s10_12, s10_12n, s10_13, s10_14, s10_17, s10_17n, s10_18, s10_21, s10_24, s10_25, s10_26, s10_26n, s10_27, s10_30, s10_33, s10_33n, s10_34, s10_35, s10_38, s10_39, s10_40, s10_43, s10_43n, s10_44, s10_45, s10_48, s10_49, s10_50, s10_53, s10_54, Option.bind_some, Option.bind_none, Option.toList_some, Option.toList_none, List.nil_append, List.cons_append, ↓reduceIte, reduceCtorEq, cl1_i, cl1_r, cl1_n, cl1_0, cl1_J, okS_0, okS_1, okS_2, okS_3, okS_4, bB_0, bB_and, z_0, z_1, z_10, bB_t, bB_f, Bool.true_eq_false, Bool.false_eq_true, gT0, gT1, gT2, gT3, gT4, gT5, gT6, gF0, gF1, gF2, gF3, gF4, gS0, gS1, gC0, gC1, iT, iF, iS, iC, sT6_0, sT6_1, sF2, sF3, sF4_0, sF4_1, sS1, sC1, fB_2, fB_3, fB_4, spd, h0, h1]
        rfl
end FLASH
