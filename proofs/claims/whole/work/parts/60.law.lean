/-! ===== The law ===== -/
theorem exec_shape : ∀ (n m pc : Nat) (L : AL) (S : List Value) (h : AH) (r : Option Value) (h' : AH), exec n m pc L S h = some (r, h') → ∃ i S', isRet m i S' = some r := by
  intro n
  induction n with
  | zero => intro m pc L S h r h' e; simp [exec] at e
  | succ n ih =>
    intro m pc L S h r h' e
    rw [exec] at e
    cases hc : cd m pc with
    | none => rw [hc] at e; simp at e
    | some q =>
      obtain ⟨i, len, aux⟩ := q
      rw [hc] at e
      simp only at e
      cases hr : isRet m i S with
      | some v =>
        rw [hr] at e
        simp only [Option.some.injEq, Prod.mk.injEq] at e
        exact ⟨i, S, by rw [hr, e.1]⟩
      | none =>
        rw [hr] at e
        simp only at e
        cases hk : isCall i aux S h with
        | some q =>
          obtain ⟨c, as, rest⟩ := q
          rw [hk] at e
          simp only at e
          cases he : exec n c 0 (ent c as) [] h with
          | none => rw [he] at e; simp at e
          | some q =>
            obtain ⟨v, h1⟩ := q
            rw [he] at e
            exact ih _ _ _ _ _ _ _ e
        | none =>
          rw [hk] at e
          simp only at e
          cases hs : stp m i aux pc L S h with
          | none => rw [hs] at e; simp at e
          | some q =>
            obtain ⟨pc', L', S', h1⟩ := q
            rw [hs] at e
            exact ih _ _ _ _ _ _ _ e
theorem run_shape {m : Nat} {as : List Value} {h h' : AH} {r : Option Value} (e : RunM m as h = some (r, h')) : ∃ i S', isRet m i S' = some r := by
  obtain ⟨n, e⟩ := Run_iff.mp e
  exact exec_shape n m 0 _ [] h r h' e
theorem shN {m : Nat} {as : List Value} {h h' : AH} {r : Option Value} (hm : mRet m = none) (e : RunM m as h = some (r, h')) : r = none := by
  obtain ⟨i, S, hr⟩ := run_shape e
  unfold isRet at hr
  rw [hm] at hr
  split at hr
  · split at hr
    · simp at hr; exact hr.symm
    · cases hr
  · split at hr <;> cases hr
  · split at hr
    · simp at hr
    · cases hr
  · split at hr
    · simp at hr
    · cases hr
  · cases hr
theorem shI {m : Nat} {as : List Value} {h h' : AH} {r : Option Value} (hm : mRet m = some .int ∨ mRet m = some .boolean) (e : RunM m as h = some (r, h')) : ∃ w, r = some (.int w) := by
  obtain ⟨i, S, hr⟩ := run_shape e
  unfold isRet at hr
  split at hr
  · split at hr
    · rcases hm with hm | hm <;> rw [hm] at hr <;> simp at hr
    · cases hr
  · split at hr
    · rename_i v
      rcases hm with hm | hm <;> rw [hm] at hr <;> simp only at hr <;> split at hr
      · exact ⟨v, (Option.some.inj hr).symm⟩
      · cases hr
      · exact ⟨v, (Option.some.inj hr).symm⟩
      · cases hr
    · cases hr
  · split at hr
    · rcases hm with hm | hm <;> rw [hm] at hr <;> simp at hr
    · cases hr
  · split at hr
    · rcases hm with hm | hm <;> rw [hm] at hr <;> simp at hr
    · cases hr
  · cases hr
theorem sl_app (a b : AH) : sl (a ++ b) = sl a + sl b := by simp [sl]
theorem sl_fC (q : Nat) (l : LiS) : sl (fC q l) = 27 := by
  simp only [fC, sl, List.map_cons, List.map_nil, List.sum_cons, List.sum_nil, szE, arI, arJ]
  decide
theorem sl_hM (M : MoS) : sl (hM M) = 1171 := by
  simp only [hM, sl, List.map_cons, List.map_nil, List.sum_cons, List.sum_nil, szE, arI, arJ]
  decide
theorem sl_hp {sc : AC} {F : FlS} {s c : OpS} {th be qu : Nat → Int32} {mo : Int32} {li : Nat → LiS} {mm : AH} : sl (hp sc F s c th be qu mo li mm) = szE sc + 1216 + 216 + sl mm := by
  unfold hp
  simp only [sl_app, sl_fC]
  have : sl [sc, .inr (4, [.ref 2, .ref 7, .ref 8, .ref 9, .ref 10, .ref 11, .int mo]), .inr (0, [.ref 3, .ref 4, .int F.2.2.1, .int F.2.2.2.1, .int F.2.2.2.2]), arI 1024 F.1, arI 16 F.2.1, .inr (3, [.ref 6, .int s.2]), arI 64 s.1, .inl (.object (cName 1), 8, foA), arZ 8 th, arZ 8 be, arI 8 qu, .inr (3, [.ref 12, .int c.2]), arI 64 c.1] = szE sc + 1216 := by
    simp only [sl, List.map_cons, List.map_nil, List.sum_cons, List.sum_nil, szE, arI, arZ]
    have h : nSl 4 + (nSl 0 + (1024 + (16 + (nSl 3 + (64 + (8 + (8 + (8 + (8 + (nSl 3 + (64 + 0))))))))))) = 1216 := by decide
    rw [h]
  rw [this]
  omega
def FM (L : Nat) (xs : Nat → Int32) (H : AH) : Prop := aln H 0 = some (nI L) ∧ (∀ j, j < L → ald H 0 .int (nI j) = some (.int (xs j))) ∧ isO H 1 4 = true ∧ isO H 61 5 = true ∧ H.length = 70 ∧ sl H ≤ 7302250 + L
theorem fm_hp {L : Nat} {xs : Nat → Int32} (hL : L ≤ 3072) {F : FlS} {s c : OpS} {th be qu : Nat → Int32} {mo : Int32} {li : Nat → LiS} {M : MoS} : FM L xs (hp (scr0 L xs) F s c th be qu mo li (hM M)) := by
  refine ⟨rfl, fun j hj => ?_, iT, iM, rfl, ?_⟩
  · rw [ald_of (n := L) (f := fun j => .int (xs j)) rfl (inB_nI hj (by omega)), nI_clamp (by omega)]
  · rw [sl_hp, sl_hM]
    show L + 1216 + 216 + 1171 ≤ _
    omega
theorem INV.fm {L : Nat} {xs : Nat → Int32} (hL : L ≤ 3072) {H : AH} (h : INV (scr0 L xs) H) : FM L xs H := by
  obtain ⟨f, s, c, th, be, qu, mt, li, jl, R, O, A, Lo, rfl, -⟩ := h
  exact fm_hp hL
theorem IV.fm {L : Nat} {xs : Nat → Int32} (hL : L ≤ 3072) {H1 H2 : AH} (h : IV (scr0 L xs) H1 H2) : FM L xs H1 := by
  obtain ⟨-, F, s, c, th, be, qu, mo, li, M, rfl⟩ := h
  exact fm_hp hL
theorem lg_cmp_self (x : Int64) : lg_cmp x x = 0 := by
  unfold lg_cmp
  simp
section LAW
variable {L : Nat} {xs : Nat → Int32} {H : AH} {i : Nat}
theorem lo0 (hL : L ≤ 3072) (hi : i + 5 < L) (hI : INV (scr0 L xs) H) : ∃ H2, INV (scr0 L xs) H2 ∧ Run 130 120 [some (.ref 0), some (.ref 1), some (.ref 61), some (.int (nI i))] [] H = Run 130 641 [some (.ref 0), some (.ref 1), some (.ref 61), some (.int (nI i))] [] H2 := by
  obtain ⟨v, H1, H2, e1, e2, hV⟩ := B54 (sc := scr0 L xs) (x := xs (i + 1)) H hI
  obtain rfl := shN (m := 54) rfl e1
  have f0 := hI.fm hL
  have f1 := hV.fm hL
  refine ⟨H2, hV.1, ?_⟩
  have i1 : nI i + 1 = nI (i + 1) := nI_add i 1
  have a1 := f0.2.1 (i + 1) (by omega)
  have b1 := f1.2.1 (i + 1) (by omega)
  simp only [s130_120, s130_120n, s130_121, s130_121n, s130_122, s130_123, s130_124, s130_125, Option.bind_some, Option.bind_none, Option.toList_some, Option.toList_none, List.nil_append, List.cons_append, ↓reduceIte, reduceCtorEq, cl1_i, cl1_r, cl1_n, cl1_0, cl1_J, okS_0, okS_1, okS_2, okS_3, okS_4, bB_0, bB_and, z_0, z_1, z_10, bB_t, bB_f, Bool.true_eq_false, Bool.false_eq_true, gT0, gT1, gT2, gT3, gT4, gT5, gT6, gF0, gF1, gF2, gF3, gF4, gS0, gS1, gC0, gC1, iT, iF, iS, iC, sT6_0, sT6_1, sF2, sF3, sF4_0, sF4_1, sS1, sC1, i1, a1]
  simp only [s130_126, f0.2.2.1, Option.bind_some, Option.bind_none, Option.toList_some, Option.toList_none, List.nil_append, List.cons_append, ↓reduceIte, reduceCtorEq, cl1_i, cl1_r, cl1_n, cl1_0, cl1_J, okS_0, okS_1, okS_2, okS_3, okS_4, bB_0, bB_and, z_0, z_1, z_10, bB_t, bB_f, Bool.true_eq_false, Bool.false_eq_true, gT0, gT1, gT2, gT3, gT4, gT5, gT6, gF0, gF1, gF2, gF3, gF4, gS0, gS1, gC0, gC1, iT, iF, iS, iC, sT6_0, sT6_1, sF2, sF3, sF4_0, sF4_1, sS1, sC1, e1]
  simp only [s130_129, s130_129n, s130_130, s130_130n, s130_131, s130_132, s130_133, s130_134, Option.bind_some, Option.bind_none, Option.toList_some, Option.toList_none, List.nil_append, List.cons_append, ↓reduceIte, reduceCtorEq, cl1_i, cl1_r, cl1_n, cl1_0, cl1_J, okS_0, okS_1, okS_2, okS_3, okS_4, bB_0, bB_and, z_0, z_1, z_10, bB_t, bB_f, Bool.true_eq_false, Bool.false_eq_true, gT0, gT1, gT2, gT3, gT4, gT5, gT6, gF0, gF1, gF2, gF3, gF4, gS0, gS1, gC0, gC1, iT, iF, iS, iC, sT6_0, sT6_1, sF2, sF3, sF4_0, sF4_1, sS1, sC1, i1, b1]
  simp only [s130_135, f1.2.2.2.1, Option.bind_some, Option.bind_none, Option.toList_some, Option.toList_none, List.nil_append, List.cons_append, ↓reduceIte, reduceCtorEq, cl1_i, cl1_r, cl1_n, cl1_0, cl1_J, okS_0, okS_1, okS_2, okS_3, okS_4, bB_0, bB_and, z_0, z_1, z_10, bB_t, bB_f, Bool.true_eq_false, Bool.false_eq_true, gT0, gT1, gT2, gT3, gT4, gT5, gT6, gF0, gF1, gF2, gF3, gF4, gS0, gS1, gC0, gC1, iT, iF, iS, iC, sT6_0, sT6_1, sF2, sF3, sF4_0, sF4_1, sS1, sC1, e2]
  simp only [s130_138]
theorem lo1 (hL : L ≤ 3072) (hi : i + 5 < L) (hI : INV (scr0 L xs) H) : ∃ H2, INV (scr0 L xs) H2 ∧ Run 130 141 [some (.ref 0), some (.ref 1), some (.ref 61), some (.int (nI i))] [] H = Run 130 641 [some (.ref 0), some (.ref 1), some (.ref 61), some (.int (nI i))] [] H2 := by
  obtain ⟨v, H1, H2, e1, e2, hV⟩ := B55 (sc := scr0 L xs) H hI
  obtain ⟨w, rfl⟩ := shI (m := 55) (Or.inr rfl) e1
  have f0 := hI.fm hL
  have f1 := hV.fm hL
  refine ⟨H2, hV.1, ?_⟩
  simp only [s130_141, s130_141n, Option.bind_some, Option.bind_none, Option.toList_some, Option.toList_none, List.nil_append, List.cons_append, ↓reduceIte, reduceCtorEq, cl1_i, cl1_r, cl1_n, cl1_0, cl1_J, okS_0, okS_1, okS_2, okS_3, okS_4, bB_0, bB_and, z_0, z_1, z_10, bB_t, bB_f, Bool.true_eq_false, Bool.false_eq_true, gT0, gT1, gT2, gT3, gT4, gT5, gT6, gF0, gF1, gF2, gF3, gF4, gS0, gS1, gC0, gC1, iT, iF, iS, iC, sT6_0, sT6_1, sF2, sF3, sF4_0, sF4_1, sS1, sC1]
  simp only [s130_142, f0.2.2.1, Option.bind_some, Option.bind_none, Option.toList_some, Option.toList_none, List.nil_append, List.cons_append, ↓reduceIte, reduceCtorEq, cl1_i, cl1_r, cl1_n, cl1_0, cl1_J, okS_0, okS_1, okS_2, okS_3, okS_4, bB_0, bB_and, z_0, z_1, z_10, bB_t, bB_f, Bool.true_eq_false, Bool.false_eq_true, gT0, gT1, gT2, gT3, gT4, gT5, gT6, gF0, gF1, gF2, gF3, gF4, gS0, gS1, gC0, gC1, iT, iF, iS, iC, sT6_0, sT6_1, sF2, sF3, sF4_0, sF4_1, sS1, sC1, e1]
  simp only [s130_145, s130_145n, Option.bind_some, Option.bind_none, Option.toList_some, Option.toList_none, List.nil_append, List.cons_append, ↓reduceIte, reduceCtorEq, cl1_i, cl1_r, cl1_n, cl1_0, cl1_J, okS_0, okS_1, okS_2, okS_3, okS_4, bB_0, bB_and, z_0, z_1, z_10, bB_t, bB_f, Bool.true_eq_false, Bool.false_eq_true, gT0, gT1, gT2, gT3, gT4, gT5, gT6, gF0, gF1, gF2, gF3, gF4, gS0, gS1, gC0, gC1, iT, iF, iS, iC, sT6_0, sT6_1, sF2, sF3, sF4_0, sF4_1, sS1, sC1]
  simp only [s130_146, f1.2.2.2.1, Option.bind_some, Option.bind_none, Option.toList_some, Option.toList_none, List.nil_append, List.cons_append, ↓reduceIte, reduceCtorEq, cl1_i, cl1_r, cl1_n, cl1_0, cl1_J, okS_0, okS_1, okS_2, okS_3, okS_4, bB_0, bB_and, z_0, z_1, z_10, bB_t, bB_f, Bool.true_eq_false, Bool.false_eq_true, gT0, gT1, gT2, gT3, gT4, gT5, gT6, gF0, gF1, gF2, gF3, gF4, gS0, gS1, gC0, gC1, iT, iF, iS, iC, sT6_0, sT6_1, sF2, sF3, sF4_0, sF4_1, sS1, sC1, e2]
  simp only [s130_149, Option.bind_some, Option.bind_none, Option.toList_some, Option.toList_none, List.nil_append, List.cons_append, ↓reduceIte, reduceCtorEq, cl1_i, cl1_r, cl1_n, cl1_0, cl1_J, okS_0, okS_1, okS_2, okS_3, okS_4, bB_0, bB_and, z_0, z_1, z_10, bB_t, bB_f, Bool.true_eq_false, Bool.false_eq_true, gT0, gT1, gT2, gT3, gT4, gT5, gT6, gF0, gF1, gF2, gF3, gF4, gS0, gS1, gC0, gC1, iT, iF, iS, iC, sT6_0, sT6_1, sF2, sF3, sF4_0, sF4_1, sS1, sC1]
theorem lo2 (hL : L ≤ 3072) (hi : i + 5 < L) (hI : INV (scr0 L xs) H) : ∃ H2, INV (scr0 L xs) H2 ∧ Run 130 154 [some (.ref 0), some (.ref 1), some (.ref 61), some (.int (nI i))] [] H = Run 130 641 [some (.ref 0), some (.ref 1), some (.ref 61), some (.int (nI i))] [] H2 := by
  obtain ⟨v, H1, H2, e1, e2, hV⟩ := B56 (sc := scr0 L xs) H hI
  obtain rfl := shN (m := 56) rfl e1
  have f0 := hI.fm hL
  have f1 := hV.fm hL
  refine ⟨H2, hV.1, ?_⟩
  simp only [s130_154, s130_154n, Option.bind_some, Option.bind_none, Option.toList_some, Option.toList_none, List.nil_append, List.cons_append, ↓reduceIte, reduceCtorEq, cl1_i, cl1_r, cl1_n, cl1_0, cl1_J, okS_0, okS_1, okS_2, okS_3, okS_4, bB_0, bB_and, z_0, z_1, z_10, bB_t, bB_f, Bool.true_eq_false, Bool.false_eq_true, gT0, gT1, gT2, gT3, gT4, gT5, gT6, gF0, gF1, gF2, gF3, gF4, gS0, gS1, gC0, gC1, iT, iF, iS, iC, sT6_0, sT6_1, sF2, sF3, sF4_0, sF4_1, sS1, sC1]
  simp only [s130_155, f0.2.2.1, Option.bind_some, Option.bind_none, Option.toList_some, Option.toList_none, List.nil_append, List.cons_append, ↓reduceIte, reduceCtorEq, cl1_i, cl1_r, cl1_n, cl1_0, cl1_J, okS_0, okS_1, okS_2, okS_3, okS_4, bB_0, bB_and, z_0, z_1, z_10, bB_t, bB_f, Bool.true_eq_false, Bool.false_eq_true, gT0, gT1, gT2, gT3, gT4, gT5, gT6, gF0, gF1, gF2, gF3, gF4, gS0, gS1, gC0, gC1, iT, iF, iS, iC, sT6_0, sT6_1, sF2, sF3, sF4_0, sF4_1, sS1, sC1, e1]
  simp only [s130_158, s130_158n, Option.bind_some, Option.bind_none, Option.toList_some, Option.toList_none, List.nil_append, List.cons_append, ↓reduceIte, reduceCtorEq, cl1_i, cl1_r, cl1_n, cl1_0, cl1_J, okS_0, okS_1, okS_2, okS_3, okS_4, bB_0, bB_and, z_0, z_1, z_10, bB_t, bB_f, Bool.true_eq_false, Bool.false_eq_true, gT0, gT1, gT2, gT3, gT4, gT5, gT6, gF0, gF1, gF2, gF3, gF4, gS0, gS1, gC0, gC1, iT, iF, iS, iC, sT6_0, sT6_1, sF2, sF3, sF4_0, sF4_1, sS1, sC1]
  simp only [s130_159, f1.2.2.2.1, Option.bind_some, Option.bind_none, Option.toList_some, Option.toList_none, List.nil_append, List.cons_append, ↓reduceIte, reduceCtorEq, cl1_i, cl1_r, cl1_n, cl1_0, cl1_J, okS_0, okS_1, okS_2, okS_3, okS_4, bB_0, bB_and, z_0, z_1, z_10, bB_t, bB_f, Bool.true_eq_false, Bool.false_eq_true, gT0, gT1, gT2, gT3, gT4, gT5, gT6, gF0, gF1, gF2, gF3, gF4, gS0, gS1, gC0, gC1, iT, iF, iS, iC, sT6_0, sT6_1, sF2, sF3, sF4_0, sF4_1, sS1, sC1, e2]
  simp only [s130_162]
theorem lo3 (hL : L ≤ 3072) (hi : i + 5 < L) (hI : INV (scr0 L xs) H) : ∃ H2, INV (scr0 L xs) H2 ∧ Run 130 165 [some (.ref 0), some (.ref 1), some (.ref 61), some (.int (nI i))] [] H = Run 130 641 [some (.ref 0), some (.ref 1), some (.ref 61), some (.int (nI i))] [] H2 := by
  obtain ⟨v, H1, H2, e1, e2, hV⟩ := B57 (sc := scr0 L xs) H hI
  obtain ⟨w, rfl⟩ := shI (m := 57) (Or.inl rfl) e1
  have f0 := hI.fm hL
  have f1 := hV.fm hL
  refine ⟨H2, hV.1, ?_⟩
  simp only [s130_165, s130_165n, Option.bind_some, Option.bind_none, Option.toList_some, Option.toList_none, List.nil_append, List.cons_append, ↓reduceIte, reduceCtorEq, cl1_i, cl1_r, cl1_n, cl1_0, cl1_J, okS_0, okS_1, okS_2, okS_3, okS_4, bB_0, bB_and, z_0, z_1, z_10, bB_t, bB_f, Bool.true_eq_false, Bool.false_eq_true, gT0, gT1, gT2, gT3, gT4, gT5, gT6, gF0, gF1, gF2, gF3, gF4, gS0, gS1, gC0, gC1, iT, iF, iS, iC, sT6_0, sT6_1, sF2, sF3, sF4_0, sF4_1, sS1, sC1]
  simp only [s130_166, f0.2.2.1, Option.bind_some, Option.bind_none, Option.toList_some, Option.toList_none, List.nil_append, List.cons_append, ↓reduceIte, reduceCtorEq, cl1_i, cl1_r, cl1_n, cl1_0, cl1_J, okS_0, okS_1, okS_2, okS_3, okS_4, bB_0, bB_and, z_0, z_1, z_10, bB_t, bB_f, Bool.true_eq_false, Bool.false_eq_true, gT0, gT1, gT2, gT3, gT4, gT5, gT6, gF0, gF1, gF2, gF3, gF4, gS0, gS1, gC0, gC1, iT, iF, iS, iC, sT6_0, sT6_1, sF2, sF3, sF4_0, sF4_1, sS1, sC1, e1]
  simp only [s130_169, s130_169n, Option.bind_some, Option.bind_none, Option.toList_some, Option.toList_none, List.nil_append, List.cons_append, ↓reduceIte, reduceCtorEq, cl1_i, cl1_r, cl1_n, cl1_0, cl1_J, okS_0, okS_1, okS_2, okS_3, okS_4, bB_0, bB_and, z_0, z_1, z_10, bB_t, bB_f, Bool.true_eq_false, Bool.false_eq_true, gT0, gT1, gT2, gT3, gT4, gT5, gT6, gF0, gF1, gF2, gF3, gF4, gS0, gS1, gC0, gC1, iT, iF, iS, iC, sT6_0, sT6_1, sF2, sF3, sF4_0, sF4_1, sS1, sC1]
  simp only [s130_170, f1.2.2.2.1, Option.bind_some, Option.bind_none, Option.toList_some, Option.toList_none, List.nil_append, List.cons_append, ↓reduceIte, reduceCtorEq, cl1_i, cl1_r, cl1_n, cl1_0, cl1_J, okS_0, okS_1, okS_2, okS_3, okS_4, bB_0, bB_and, z_0, z_1, z_10, bB_t, bB_f, Bool.true_eq_false, Bool.false_eq_true, gT0, gT1, gT2, gT3, gT4, gT5, gT6, gF0, gF1, gF2, gF3, gF4, gS0, gS1, gC0, gC1, iT, iF, iS, iC, sT6_0, sT6_1, sF2, sF3, sF4_0, sF4_1, sS1, sC1, e2]
  simp only [s130_173, Option.bind_some, Option.bind_none, Option.toList_some, Option.toList_none, List.nil_append, List.cons_append, ↓reduceIte, reduceCtorEq, cl1_i, cl1_r, cl1_n, cl1_0, cl1_J, okS_0, okS_1, okS_2, okS_3, okS_4, bB_0, bB_and, z_0, z_1, z_10, bB_t, bB_f, Bool.true_eq_false, Bool.false_eq_true, gT0, gT1, gT2, gT3, gT4, gT5, gT6, gF0, gF1, gF2, gF3, gF4, gS0, gS1, gC0, gC1, iT, iF, iS, iC, sT6_0, sT6_1, sF2, sF3, sF4_0, sF4_1, sS1, sC1]
theorem lo4 (hL : L ≤ 3072) (hi : i + 5 < L) (hI : INV (scr0 L xs) H) : ∃ H2, INV (scr0 L xs) H2 ∧ Run 130 178 [some (.ref 0), some (.ref 1), some (.ref 61), some (.int (nI i))] [] H = Run 130 641 [some (.ref 0), some (.ref 1), some (.ref 61), some (.int (nI i))] [] H2 := by
  obtain ⟨v, H1, H2, e1, e2, hV⟩ := B58 (sc := scr0 L xs) H hI
  obtain ⟨w, rfl⟩ := shI (m := 58) (Or.inl rfl) e1
  have f0 := hI.fm hL
  have f1 := hV.fm hL
  refine ⟨H2, hV.1, ?_⟩
  simp only [s130_178, s130_178n, Option.bind_some, Option.bind_none, Option.toList_some, Option.toList_none, List.nil_append, List.cons_append, ↓reduceIte, reduceCtorEq, cl1_i, cl1_r, cl1_n, cl1_0, cl1_J, okS_0, okS_1, okS_2, okS_3, okS_4, bB_0, bB_and, z_0, z_1, z_10, bB_t, bB_f, Bool.true_eq_false, Bool.false_eq_true, gT0, gT1, gT2, gT3, gT4, gT5, gT6, gF0, gF1, gF2, gF3, gF4, gS0, gS1, gC0, gC1, iT, iF, iS, iC, sT6_0, sT6_1, sF2, sF3, sF4_0, sF4_1, sS1, sC1]
  simp only [s130_179, f0.2.2.1, Option.bind_some, Option.bind_none, Option.toList_some, Option.toList_none, List.nil_append, List.cons_append, ↓reduceIte, reduceCtorEq, cl1_i, cl1_r, cl1_n, cl1_0, cl1_J, okS_0, okS_1, okS_2, okS_3, okS_4, bB_0, bB_and, z_0, z_1, z_10, bB_t, bB_f, Bool.true_eq_false, Bool.false_eq_true, gT0, gT1, gT2, gT3, gT4, gT5, gT6, gF0, gF1, gF2, gF3, gF4, gS0, gS1, gC0, gC1, iT, iF, iS, iC, sT6_0, sT6_1, sF2, sF3, sF4_0, sF4_1, sS1, sC1, e1]
  simp only [s130_182, s130_182n, Option.bind_some, Option.bind_none, Option.toList_some, Option.toList_none, List.nil_append, List.cons_append, ↓reduceIte, reduceCtorEq, cl1_i, cl1_r, cl1_n, cl1_0, cl1_J, okS_0, okS_1, okS_2, okS_3, okS_4, bB_0, bB_and, z_0, z_1, z_10, bB_t, bB_f, Bool.true_eq_false, Bool.false_eq_true, gT0, gT1, gT2, gT3, gT4, gT5, gT6, gF0, gF1, gF2, gF3, gF4, gS0, gS1, gC0, gC1, iT, iF, iS, iC, sT6_0, sT6_1, sF2, sF3, sF4_0, sF4_1, sS1, sC1]
  simp only [s130_183, f1.2.2.2.1, Option.bind_some, Option.bind_none, Option.toList_some, Option.toList_none, List.nil_append, List.cons_append, ↓reduceIte, reduceCtorEq, cl1_i, cl1_r, cl1_n, cl1_0, cl1_J, okS_0, okS_1, okS_2, okS_3, okS_4, bB_0, bB_and, z_0, z_1, z_10, bB_t, bB_f, Bool.true_eq_false, Bool.false_eq_true, gT0, gT1, gT2, gT3, gT4, gT5, gT6, gF0, gF1, gF2, gF3, gF4, gS0, gS1, gC0, gC1, iT, iF, iS, iC, sT6_0, sT6_1, sF2, sF3, sF4_0, sF4_1, sS1, sC1, e2]
  simp only [s130_186, Option.bind_some, Option.bind_none, Option.toList_some, Option.toList_none, List.nil_append, List.cons_append, ↓reduceIte, reduceCtorEq, cl1_i, cl1_r, cl1_n, cl1_0, cl1_J, okS_0, okS_1, okS_2, okS_3, okS_4, bB_0, bB_and, z_0, z_1, z_10, bB_t, bB_f, Bool.true_eq_false, Bool.false_eq_true, gT0, gT1, gT2, gT3, gT4, gT5, gT6, gF0, gF1, gF2, gF3, gF4, gS0, gS1, gC0, gC1, iT, iF, iS, iC, sT6_0, sT6_1, sF2, sF3, sF4_0, sF4_1, sS1, sC1]
theorem lo5 (hL : L ≤ 3072) (hi : i + 5 < L) (hI : INV (scr0 L xs) H) : ∃ H2, INV (scr0 L xs) H2 ∧ Run 130 191 [some (.ref 0), some (.ref 1), some (.ref 61), some (.int (nI i))] [] H = Run 130 641 [some (.ref 0), some (.ref 1), some (.ref 61), some (.int (nI i))] [] H2 := by
  obtain ⟨v, H1, H2, e1, e2, hV⟩ := B59 (sc := scr0 L xs) (d := xs (i + 1)) (x := xs (i + 2)) H hI
  obtain ⟨w, rfl⟩ := shI (m := 59) (Or.inl rfl) e1
  have f0 := hI.fm hL
  have f1 := hV.fm hL
  refine ⟨H2, hV.1, ?_⟩
  have i1 : nI i + 1 = nI (i + 1) := nI_add i 1
  have a1 := f0.2.1 (i + 1) (by omega)
  have b1 := f1.2.1 (i + 1) (by omega)
  have i2 : nI i + 2 = nI (i + 2) := nI_add i 2
  have a2 := f0.2.1 (i + 2) (by omega)
  have b2 := f1.2.1 (i + 2) (by omega)
  simp only [s130_191, s130_191n, s130_192, s130_192n, s130_193, s130_194, s130_195, s130_196, s130_197, s130_197n, s130_198, s130_199, s130_200, s130_201, Option.bind_some, Option.bind_none, Option.toList_some, Option.toList_none, List.nil_append, List.cons_append, ↓reduceIte, reduceCtorEq, cl1_i, cl1_r, cl1_n, cl1_0, cl1_J, okS_0, okS_1, okS_2, okS_3, okS_4, bB_0, bB_and, z_0, z_1, z_10, bB_t, bB_f, Bool.true_eq_false, Bool.false_eq_true, gT0, gT1, gT2, gT3, gT4, gT5, gT6, gF0, gF1, gF2, gF3, gF4, gS0, gS1, gC0, gC1, iT, iF, iS, iC, sT6_0, sT6_1, sF2, sF3, sF4_0, sF4_1, sS1, sC1, i1, a1, i2, a2]
  simp only [s130_202, f0.2.2.1, Option.bind_some, Option.bind_none, Option.toList_some, Option.toList_none, List.nil_append, List.cons_append, ↓reduceIte, reduceCtorEq, cl1_i, cl1_r, cl1_n, cl1_0, cl1_J, okS_0, okS_1, okS_2, okS_3, okS_4, bB_0, bB_and, z_0, z_1, z_10, bB_t, bB_f, Bool.true_eq_false, Bool.false_eq_true, gT0, gT1, gT2, gT3, gT4, gT5, gT6, gF0, gF1, gF2, gF3, gF4, gS0, gS1, gC0, gC1, iT, iF, iS, iC, sT6_0, sT6_1, sF2, sF3, sF4_0, sF4_1, sS1, sC1, e1]
  simp only [s130_205, s130_205n, s130_206, s130_206n, s130_207, s130_208, s130_209, s130_210, s130_211, s130_211n, s130_212, s130_213, s130_214, s130_215, Option.bind_some, Option.bind_none, Option.toList_some, Option.toList_none, List.nil_append, List.cons_append, ↓reduceIte, reduceCtorEq, cl1_i, cl1_r, cl1_n, cl1_0, cl1_J, okS_0, okS_1, okS_2, okS_3, okS_4, bB_0, bB_and, z_0, z_1, z_10, bB_t, bB_f, Bool.true_eq_false, Bool.false_eq_true, gT0, gT1, gT2, gT3, gT4, gT5, gT6, gF0, gF1, gF2, gF3, gF4, gS0, gS1, gC0, gC1, iT, iF, iS, iC, sT6_0, sT6_1, sF2, sF3, sF4_0, sF4_1, sS1, sC1, i1, b1, i2, b2]
  simp only [s130_216, f1.2.2.2.1, Option.bind_some, Option.bind_none, Option.toList_some, Option.toList_none, List.nil_append, List.cons_append, ↓reduceIte, reduceCtorEq, cl1_i, cl1_r, cl1_n, cl1_0, cl1_J, okS_0, okS_1, okS_2, okS_3, okS_4, bB_0, bB_and, z_0, z_1, z_10, bB_t, bB_f, Bool.true_eq_false, Bool.false_eq_true, gT0, gT1, gT2, gT3, gT4, gT5, gT6, gF0, gF1, gF2, gF3, gF4, gS0, gS1, gC0, gC1, iT, iF, iS, iC, sT6_0, sT6_1, sF2, sF3, sF4_0, sF4_1, sS1, sC1, e2]
  simp only [s130_219, Option.bind_some, Option.bind_none, Option.toList_some, Option.toList_none, List.nil_append, List.cons_append, ↓reduceIte, reduceCtorEq, cl1_i, cl1_r, cl1_n, cl1_0, cl1_J, okS_0, okS_1, okS_2, okS_3, okS_4, bB_0, bB_and, z_0, z_1, z_10, bB_t, bB_f, Bool.true_eq_false, Bool.false_eq_true, gT0, gT1, gT2, gT3, gT4, gT5, gT6, gF0, gF1, gF2, gF3, gF4, gS0, gS1, gC0, gC1, iT, iF, iS, iC, sT6_0, sT6_1, sF2, sF3, sF4_0, sF4_1, sS1, sC1]
theorem lo6 (hL : L ≤ 3072) (hi : i + 5 < L) (hI : INV (scr0 L xs) H) : ∃ H2, INV (scr0 L xs) H2 ∧ Run 130 224 [some (.ref 0), some (.ref 1), some (.ref 61), some (.int (nI i))] [] H = Run 130 641 [some (.ref 0), some (.ref 1), some (.ref 61), some (.int (nI i))] [] H2 := by
  obtain ⟨v, H1, H2, e1, e2, hV⟩ := B60 (sc := scr0 L xs) (d := xs (i + 1)) (x := xs (i + 2)) (n := xs (i + 3)) (v := ((xs (i + 4)).toInt64 <<< ((32 : Int32).toInt64 &&& 63)) ||| ((xs (i + 5)).toInt64 &&& 4294967295)) H hI
  obtain ⟨w, rfl⟩ := shI (m := 60) (Or.inl rfl) e1
  have f0 := hI.fm hL
  have f1 := hV.fm hL
  refine ⟨H2, hV.1, ?_⟩
  have i1 : nI i + 1 = nI (i + 1) := nI_add i 1
  have a1 := f0.2.1 (i + 1) (by omega)
  have b1 := f1.2.1 (i + 1) (by omega)
  have i2 : nI i + 2 = nI (i + 2) := nI_add i 2
  have a2 := f0.2.1 (i + 2) (by omega)
  have b2 := f1.2.1 (i + 2) (by omega)
  have i3 : nI i + 3 = nI (i + 3) := nI_add i 3
  have a3 := f0.2.1 (i + 3) (by omega)
  have b3 := f1.2.1 (i + 3) (by omega)
  have i4 : nI i + 4 = nI (i + 4) := nI_add i 4
  have a4 := f0.2.1 (i + 4) (by omega)
  have b4 := f1.2.1 (i + 4) (by omega)
  have i5 : nI i + 5 = nI (i + 5) := nI_add i 5
  have a5 := f0.2.1 (i + 5) (by omega)
  have b5 := f1.2.1 (i + 5) (by omega)
  simp only [s130_224, s130_224n, s130_225, s130_225n, s130_226, s130_227, s130_228, s130_229, s130_230, s130_230n, s130_231, s130_232, s130_233, s130_234, s130_235, s130_235n, s130_236, s130_237, s130_238, s130_239, s130_240, s130_240n, s130_241, s130_242, s130_243, s130_244, s130_245, s130_246, s130_248, s130_249, s130_249n, s130_250, s130_251, s130_252, s130_253, s130_254, s130_255, s130_258, s130_259, Option.bind_some, Option.bind_none, Option.toList_some, Option.toList_none, List.nil_append, List.cons_append, ↓reduceIte, reduceCtorEq, cl1_i, cl1_r, cl1_n, cl1_0, cl1_J, okS_0, okS_1, okS_2, okS_3, okS_4, bB_0, bB_and, z_0, z_1, z_10, bB_t, bB_f, Bool.true_eq_false, Bool.false_eq_true, gT0, gT1, gT2, gT3, gT4, gT5, gT6, gF0, gF1, gF2, gF3, gF4, gS0, gS1, gC0, gC1, iT, iF, iS, iC, sT6_0, sT6_1, sF2, sF3, sF4_0, sF4_1, sS1, sC1, i1, a1, i2, a2, i3, a3, i4, a4, i5, a5]
  simp only [s130_260, f0.2.2.1, Option.bind_some, Option.bind_none, Option.toList_some, Option.toList_none, List.nil_append, List.cons_append, ↓reduceIte, reduceCtorEq, cl1_i, cl1_r, cl1_n, cl1_0, cl1_J, okS_0, okS_1, okS_2, okS_3, okS_4, bB_0, bB_and, z_0, z_1, z_10, bB_t, bB_f, Bool.true_eq_false, Bool.false_eq_true, gT0, gT1, gT2, gT3, gT4, gT5, gT6, gF0, gF1, gF2, gF3, gF4, gS0, gS1, gC0, gC1, iT, iF, iS, iC, sT6_0, sT6_1, sF2, sF3, sF4_0, sF4_1, sS1, sC1, e1]
  simp only [s130_263, s130_263n, s130_264, s130_264n, s130_265, s130_266, s130_267, s130_268, s130_269, s130_269n, s130_270, s130_271, s130_272, s130_273, s130_274, s130_274n, s130_275, s130_276, s130_277, s130_278, s130_279, s130_279n, s130_280, s130_281, s130_282, s130_283, s130_284, s130_285, s130_287, s130_288, s130_288n, s130_289, s130_290, s130_291, s130_292, s130_293, s130_294, s130_297, s130_298, Option.bind_some, Option.bind_none, Option.toList_some, Option.toList_none, List.nil_append, List.cons_append, ↓reduceIte, reduceCtorEq, cl1_i, cl1_r, cl1_n, cl1_0, cl1_J, okS_0, okS_1, okS_2, okS_3, okS_4, bB_0, bB_and, z_0, z_1, z_10, bB_t, bB_f, Bool.true_eq_false, Bool.false_eq_true, gT0, gT1, gT2, gT3, gT4, gT5, gT6, gF0, gF1, gF2, gF3, gF4, gS0, gS1, gC0, gC1, iT, iF, iS, iC, sT6_0, sT6_1, sF2, sF3, sF4_0, sF4_1, sS1, sC1, i1, b1, i2, b2, i3, b3, i4, b4, i5, b5]
  simp only [s130_299, f1.2.2.2.1, Option.bind_some, Option.bind_none, Option.toList_some, Option.toList_none, List.nil_append, List.cons_append, ↓reduceIte, reduceCtorEq, cl1_i, cl1_r, cl1_n, cl1_0, cl1_J, okS_0, okS_1, okS_2, okS_3, okS_4, bB_0, bB_and, z_0, z_1, z_10, bB_t, bB_f, Bool.true_eq_false, Bool.false_eq_true, gT0, gT1, gT2, gT3, gT4, gT5, gT6, gF0, gF1, gF2, gF3, gF4, gS0, gS1, gC0, gC1, iT, iF, iS, iC, sT6_0, sT6_1, sF2, sF3, sF4_0, sF4_1, sS1, sC1, e2]
  simp only [s130_302, Option.bind_some, Option.bind_none, Option.toList_some, Option.toList_none, List.nil_append, List.cons_append, ↓reduceIte, reduceCtorEq, cl1_i, cl1_r, cl1_n, cl1_0, cl1_J, okS_0, okS_1, okS_2, okS_3, okS_4, bB_0, bB_and, z_0, z_1, z_10, bB_t, bB_f, Bool.true_eq_false, Bool.false_eq_true, gT0, gT1, gT2, gT3, gT4, gT5, gT6, gF0, gF1, gF2, gF3, gF4, gS0, gS1, gC0, gC1, iT, iF, iS, iC, sT6_0, sT6_1, sF2, sF3, sF4_0, sF4_1, sS1, sC1]
theorem lo7 (hL : L ≤ 3072) (hi : i + 5 < L) (hI : INV (scr0 L xs) H) : ∃ H2, INV (scr0 L xs) H2 ∧ Run 130 307 [some (.ref 0), some (.ref 1), some (.ref 61), some (.int (nI i))] [] H = Run 130 641 [some (.ref 0), some (.ref 1), some (.ref 61), some (.int (nI i))] [] H2 := by
  obtain ⟨v, H1, H2, e1, e2, hV⟩ := B61 (sc := scr0 L xs) (d := xs (i + 1)) (x := xs (i + 2)) H hI
  obtain ⟨w, rfl⟩ := shI (m := 61) (Or.inl rfl) e1
  have f0 := hI.fm hL
  have f1 := hV.fm hL
  refine ⟨H2, hV.1, ?_⟩
  have i1 : nI i + 1 = nI (i + 1) := nI_add i 1
  have a1 := f0.2.1 (i + 1) (by omega)
  have b1 := f1.2.1 (i + 1) (by omega)
  have i2 : nI i + 2 = nI (i + 2) := nI_add i 2
  have a2 := f0.2.1 (i + 2) (by omega)
  have b2 := f1.2.1 (i + 2) (by omega)
  simp only [s130_307, s130_307n, s130_308, s130_308n, s130_309, s130_310, s130_311, s130_312, s130_313, s130_313n, s130_314, s130_315, s130_316, s130_317, Option.bind_some, Option.bind_none, Option.toList_some, Option.toList_none, List.nil_append, List.cons_append, ↓reduceIte, reduceCtorEq, cl1_i, cl1_r, cl1_n, cl1_0, cl1_J, okS_0, okS_1, okS_2, okS_3, okS_4, bB_0, bB_and, z_0, z_1, z_10, bB_t, bB_f, Bool.true_eq_false, Bool.false_eq_true, gT0, gT1, gT2, gT3, gT4, gT5, gT6, gF0, gF1, gF2, gF3, gF4, gS0, gS1, gC0, gC1, iT, iF, iS, iC, sT6_0, sT6_1, sF2, sF3, sF4_0, sF4_1, sS1, sC1, i1, a1, i2, a2]
  simp only [s130_318, f0.2.2.1, Option.bind_some, Option.bind_none, Option.toList_some, Option.toList_none, List.nil_append, List.cons_append, ↓reduceIte, reduceCtorEq, cl1_i, cl1_r, cl1_n, cl1_0, cl1_J, okS_0, okS_1, okS_2, okS_3, okS_4, bB_0, bB_and, z_0, z_1, z_10, bB_t, bB_f, Bool.true_eq_false, Bool.false_eq_true, gT0, gT1, gT2, gT3, gT4, gT5, gT6, gF0, gF1, gF2, gF3, gF4, gS0, gS1, gC0, gC1, iT, iF, iS, iC, sT6_0, sT6_1, sF2, sF3, sF4_0, sF4_1, sS1, sC1, e1]
  simp only [s130_321, s130_321n, s130_322, s130_322n, s130_323, s130_324, s130_325, s130_326, s130_327, s130_327n, s130_328, s130_329, s130_330, s130_331, Option.bind_some, Option.bind_none, Option.toList_some, Option.toList_none, List.nil_append, List.cons_append, ↓reduceIte, reduceCtorEq, cl1_i, cl1_r, cl1_n, cl1_0, cl1_J, okS_0, okS_1, okS_2, okS_3, okS_4, bB_0, bB_and, z_0, z_1, z_10, bB_t, bB_f, Bool.true_eq_false, Bool.false_eq_true, gT0, gT1, gT2, gT3, gT4, gT5, gT6, gF0, gF1, gF2, gF3, gF4, gS0, gS1, gC0, gC1, iT, iF, iS, iC, sT6_0, sT6_1, sF2, sF3, sF4_0, sF4_1, sS1, sC1, i1, b1, i2, b2]
  simp only [s130_332, f1.2.2.2.1, Option.bind_some, Option.bind_none, Option.toList_some, Option.toList_none, List.nil_append, List.cons_append, ↓reduceIte, reduceCtorEq, cl1_i, cl1_r, cl1_n, cl1_0, cl1_J, okS_0, okS_1, okS_2, okS_3, okS_4, bB_0, bB_and, z_0, z_1, z_10, bB_t, bB_f, Bool.true_eq_false, Bool.false_eq_true, gT0, gT1, gT2, gT3, gT4, gT5, gT6, gF0, gF1, gF2, gF3, gF4, gS0, gS1, gC0, gC1, iT, iF, iS, iC, sT6_0, sT6_1, sF2, sF3, sF4_0, sF4_1, sS1, sC1, e2]
  simp only [s130_335, Option.bind_some, Option.bind_none, Option.toList_some, Option.toList_none, List.nil_append, List.cons_append, ↓reduceIte, reduceCtorEq, cl1_i, cl1_r, cl1_n, cl1_0, cl1_J, okS_0, okS_1, okS_2, okS_3, okS_4, bB_0, bB_and, z_0, z_1, z_10, bB_t, bB_f, Bool.true_eq_false, Bool.false_eq_true, gT0, gT1, gT2, gT3, gT4, gT5, gT6, gF0, gF1, gF2, gF3, gF4, gS0, gS1, gC0, gC1, iT, iF, iS, iC, sT6_0, sT6_1, sF2, sF3, sF4_0, sF4_1, sS1, sC1]
theorem lo8 (hL : L ≤ 3072) (hi : i + 5 < L) (hI : INV (scr0 L xs) H) : ∃ H2, INV (scr0 L xs) H2 ∧ Run 130 340 [some (.ref 0), some (.ref 1), some (.ref 61), some (.int (nI i))] [] H = Run 130 641 [some (.ref 0), some (.ref 1), some (.ref 61), some (.int (nI i))] [] H2 := by
  obtain ⟨v, H1, H2, e1, e2, hV⟩ := B62 (sc := scr0 L xs) (d := xs (i + 1)) (x := xs (i + 2)) (e := xs (i + 3)) (y := xs (i + 4)) H hI
  obtain ⟨w, rfl⟩ := shI (m := 62) (Or.inl rfl) e1
  have f0 := hI.fm hL
  have f1 := hV.fm hL
  refine ⟨H2, hV.1, ?_⟩
  have i1 : nI i + 1 = nI (i + 1) := nI_add i 1
  have a1 := f0.2.1 (i + 1) (by omega)
  have b1 := f1.2.1 (i + 1) (by omega)
  have i2 : nI i + 2 = nI (i + 2) := nI_add i 2
  have a2 := f0.2.1 (i + 2) (by omega)
  have b2 := f1.2.1 (i + 2) (by omega)
  have i3 : nI i + 3 = nI (i + 3) := nI_add i 3
  have a3 := f0.2.1 (i + 3) (by omega)
  have b3 := f1.2.1 (i + 3) (by omega)
  have i4 : nI i + 4 = nI (i + 4) := nI_add i 4
  have a4 := f0.2.1 (i + 4) (by omega)
  have b4 := f1.2.1 (i + 4) (by omega)
  simp only [s130_340, s130_340n, s130_341, s130_341n, s130_342, s130_343, s130_344, s130_345, s130_346, s130_346n, s130_347, s130_348, s130_349, s130_350, s130_351, s130_351n, s130_352, s130_353, s130_354, s130_355, s130_356, s130_356n, s130_357, s130_358, s130_359, s130_360, Option.bind_some, Option.bind_none, Option.toList_some, Option.toList_none, List.nil_append, List.cons_append, ↓reduceIte, reduceCtorEq, cl1_i, cl1_r, cl1_n, cl1_0, cl1_J, okS_0, okS_1, okS_2, okS_3, okS_4, bB_0, bB_and, z_0, z_1, z_10, bB_t, bB_f, Bool.true_eq_false, Bool.false_eq_true, gT0, gT1, gT2, gT3, gT4, gT5, gT6, gF0, gF1, gF2, gF3, gF4, gS0, gS1, gC0, gC1, iT, iF, iS, iC, sT6_0, sT6_1, sF2, sF3, sF4_0, sF4_1, sS1, sC1, i1, a1, i2, a2, i3, a3, i4, a4]
  simp only [s130_361, f0.2.2.1, Option.bind_some, Option.bind_none, Option.toList_some, Option.toList_none, List.nil_append, List.cons_append, ↓reduceIte, reduceCtorEq, cl1_i, cl1_r, cl1_n, cl1_0, cl1_J, okS_0, okS_1, okS_2, okS_3, okS_4, bB_0, bB_and, z_0, z_1, z_10, bB_t, bB_f, Bool.true_eq_false, Bool.false_eq_true, gT0, gT1, gT2, gT3, gT4, gT5, gT6, gF0, gF1, gF2, gF3, gF4, gS0, gS1, gC0, gC1, iT, iF, iS, iC, sT6_0, sT6_1, sF2, sF3, sF4_0, sF4_1, sS1, sC1, e1]
  simp only [s130_364, s130_364n, s130_365, s130_365n, s130_366, s130_367, s130_368, s130_369, s130_370, s130_370n, s130_371, s130_372, s130_373, s130_374, s130_375, s130_375n, s130_376, s130_377, s130_378, s130_379, s130_380, s130_380n, s130_381, s130_382, s130_383, s130_384, Option.bind_some, Option.bind_none, Option.toList_some, Option.toList_none, List.nil_append, List.cons_append, ↓reduceIte, reduceCtorEq, cl1_i, cl1_r, cl1_n, cl1_0, cl1_J, okS_0, okS_1, okS_2, okS_3, okS_4, bB_0, bB_and, z_0, z_1, z_10, bB_t, bB_f, Bool.true_eq_false, Bool.false_eq_true, gT0, gT1, gT2, gT3, gT4, gT5, gT6, gF0, gF1, gF2, gF3, gF4, gS0, gS1, gC0, gC1, iT, iF, iS, iC, sT6_0, sT6_1, sF2, sF3, sF4_0, sF4_1, sS1, sC1, i1, b1, i2, b2, i3, b3, i4, b4]
  simp only [s130_385, f1.2.2.2.1, Option.bind_some, Option.bind_none, Option.toList_some, Option.toList_none, List.nil_append, List.cons_append, ↓reduceIte, reduceCtorEq, cl1_i, cl1_r, cl1_n, cl1_0, cl1_J, okS_0, okS_1, okS_2, okS_3, okS_4, bB_0, bB_and, z_0, z_1, z_10, bB_t, bB_f, Bool.true_eq_false, Bool.false_eq_true, gT0, gT1, gT2, gT3, gT4, gT5, gT6, gF0, gF1, gF2, gF3, gF4, gS0, gS1, gC0, gC1, iT, iF, iS, iC, sT6_0, sT6_1, sF2, sF3, sF4_0, sF4_1, sS1, sC1, e2]
  simp only [s130_388, Option.bind_some, Option.bind_none, Option.toList_some, Option.toList_none, List.nil_append, List.cons_append, ↓reduceIte, reduceCtorEq, cl1_i, cl1_r, cl1_n, cl1_0, cl1_J, okS_0, okS_1, okS_2, okS_3, okS_4, bB_0, bB_and, z_0, z_1, z_10, bB_t, bB_f, Bool.true_eq_false, Bool.false_eq_true, gT0, gT1, gT2, gT3, gT4, gT5, gT6, gF0, gF1, gF2, gF3, gF4, gS0, gS1, gC0, gC1, iT, iF, iS, iC, sT6_0, sT6_1, sF2, sF3, sF4_0, sF4_1, sS1, sC1]
theorem lo9 (hL : L ≤ 3072) (hi : i + 5 < L) (hI : INV (scr0 L xs) H) : ∃ H2, INV (scr0 L xs) H2 ∧ Run 130 393 [some (.ref 0), some (.ref 1), some (.ref 61), some (.int (nI i))] [] H = Run 130 641 [some (.ref 0), some (.ref 1), some (.ref 61), some (.int (nI i))] [] H2 := by
  obtain ⟨v, H1, H2, e1, e2, hV⟩ := B63 (sc := scr0 L xs) (d := xs (i + 1)) (x := xs (i + 2)) H hI
  obtain ⟨w, rfl⟩ := shI (m := 63) (Or.inl rfl) e1
  have f0 := hI.fm hL
  have f1 := hV.fm hL
  refine ⟨H2, hV.1, ?_⟩
  have i1 : nI i + 1 = nI (i + 1) := nI_add i 1
  have a1 := f0.2.1 (i + 1) (by omega)
  have b1 := f1.2.1 (i + 1) (by omega)
  have i2 : nI i + 2 = nI (i + 2) := nI_add i 2
  have a2 := f0.2.1 (i + 2) (by omega)
  have b2 := f1.2.1 (i + 2) (by omega)
  simp only [s130_393, s130_393n, s130_394, s130_394n, s130_395, s130_396, s130_397, s130_398, s130_399, s130_399n, s130_400, s130_401, s130_402, s130_403, Option.bind_some, Option.bind_none, Option.toList_some, Option.toList_none, List.nil_append, List.cons_append, ↓reduceIte, reduceCtorEq, cl1_i, cl1_r, cl1_n, cl1_0, cl1_J, okS_0, okS_1, okS_2, okS_3, okS_4, bB_0, bB_and, z_0, z_1, z_10, bB_t, bB_f, Bool.true_eq_false, Bool.false_eq_true, gT0, gT1, gT2, gT3, gT4, gT5, gT6, gF0, gF1, gF2, gF3, gF4, gS0, gS1, gC0, gC1, iT, iF, iS, iC, sT6_0, sT6_1, sF2, sF3, sF4_0, sF4_1, sS1, sC1, i1, a1, i2, a2]
  simp only [s130_404, f0.2.2.1, Option.bind_some, Option.bind_none, Option.toList_some, Option.toList_none, List.nil_append, List.cons_append, ↓reduceIte, reduceCtorEq, cl1_i, cl1_r, cl1_n, cl1_0, cl1_J, okS_0, okS_1, okS_2, okS_3, okS_4, bB_0, bB_and, z_0, z_1, z_10, bB_t, bB_f, Bool.true_eq_false, Bool.false_eq_true, gT0, gT1, gT2, gT3, gT4, gT5, gT6, gF0, gF1, gF2, gF3, gF4, gS0, gS1, gC0, gC1, iT, iF, iS, iC, sT6_0, sT6_1, sF2, sF3, sF4_0, sF4_1, sS1, sC1, e1]
  simp only [s130_407, s130_407n, s130_408, s130_408n, s130_409, s130_410, s130_411, s130_412, s130_413, s130_413n, s130_414, s130_415, s130_416, s130_417, Option.bind_some, Option.bind_none, Option.toList_some, Option.toList_none, List.nil_append, List.cons_append, ↓reduceIte, reduceCtorEq, cl1_i, cl1_r, cl1_n, cl1_0, cl1_J, okS_0, okS_1, okS_2, okS_3, okS_4, bB_0, bB_and, z_0, z_1, z_10, bB_t, bB_f, Bool.true_eq_false, Bool.false_eq_true, gT0, gT1, gT2, gT3, gT4, gT5, gT6, gF0, gF1, gF2, gF3, gF4, gS0, gS1, gC0, gC1, iT, iF, iS, iC, sT6_0, sT6_1, sF2, sF3, sF4_0, sF4_1, sS1, sC1, i1, b1, i2, b2]
  simp only [s130_418, f1.2.2.2.1, Option.bind_some, Option.bind_none, Option.toList_some, Option.toList_none, List.nil_append, List.cons_append, ↓reduceIte, reduceCtorEq, cl1_i, cl1_r, cl1_n, cl1_0, cl1_J, okS_0, okS_1, okS_2, okS_3, okS_4, bB_0, bB_and, z_0, z_1, z_10, bB_t, bB_f, Bool.true_eq_false, Bool.false_eq_true, gT0, gT1, gT2, gT3, gT4, gT5, gT6, gF0, gF1, gF2, gF3, gF4, gS0, gS1, gC0, gC1, iT, iF, iS, iC, sT6_0, sT6_1, sF2, sF3, sF4_0, sF4_1, sS1, sC1, e2]
  simp only [s130_421, Option.bind_some, Option.bind_none, Option.toList_some, Option.toList_none, List.nil_append, List.cons_append, ↓reduceIte, reduceCtorEq, cl1_i, cl1_r, cl1_n, cl1_0, cl1_J, okS_0, okS_1, okS_2, okS_3, okS_4, bB_0, bB_and, z_0, z_1, z_10, bB_t, bB_f, Bool.true_eq_false, Bool.false_eq_true, gT0, gT1, gT2, gT3, gT4, gT5, gT6, gF0, gF1, gF2, gF3, gF4, gS0, gS1, gC0, gC1, iT, iF, iS, iC, sT6_0, sT6_1, sF2, sF3, sF4_0, sF4_1, sS1, sC1]
theorem lo10 (hL : L ≤ 3072) (hi : i + 5 < L) (hI : INV (scr0 L xs) H) : ∃ H2, INV (scr0 L xs) H2 ∧ Run 130 426 [some (.ref 0), some (.ref 1), some (.ref 61), some (.int (nI i))] [] H = Run 130 641 [some (.ref 0), some (.ref 1), some (.ref 61), some (.int (nI i))] [] H2 := by
  obtain ⟨v, H1, H2, e1, e2, hV⟩ := B64 (sc := scr0 L xs) (d := xs (i + 1)) (x := xs (i + 2)) H hI
  obtain ⟨w, rfl⟩ := shI (m := 64) (Or.inl rfl) e1
  have f0 := hI.fm hL
  have f1 := hV.fm hL
  refine ⟨H2, hV.1, ?_⟩
  have i1 : nI i + 1 = nI (i + 1) := nI_add i 1
  have a1 := f0.2.1 (i + 1) (by omega)
  have b1 := f1.2.1 (i + 1) (by omega)
  have i2 : nI i + 2 = nI (i + 2) := nI_add i 2
  have a2 := f0.2.1 (i + 2) (by omega)
  have b2 := f1.2.1 (i + 2) (by omega)
  simp only [s130_426, s130_426n, s130_427, s130_427n, s130_428, s130_429, s130_430, s130_431, s130_432, s130_432n, s130_433, s130_434, s130_435, s130_436, Option.bind_some, Option.bind_none, Option.toList_some, Option.toList_none, List.nil_append, List.cons_append, ↓reduceIte, reduceCtorEq, cl1_i, cl1_r, cl1_n, cl1_0, cl1_J, okS_0, okS_1, okS_2, okS_3, okS_4, bB_0, bB_and, z_0, z_1, z_10, bB_t, bB_f, Bool.true_eq_false, Bool.false_eq_true, gT0, gT1, gT2, gT3, gT4, gT5, gT6, gF0, gF1, gF2, gF3, gF4, gS0, gS1, gC0, gC1, iT, iF, iS, iC, sT6_0, sT6_1, sF2, sF3, sF4_0, sF4_1, sS1, sC1, i1, a1, i2, a2]
  simp only [s130_437, f0.2.2.1, Option.bind_some, Option.bind_none, Option.toList_some, Option.toList_none, List.nil_append, List.cons_append, ↓reduceIte, reduceCtorEq, cl1_i, cl1_r, cl1_n, cl1_0, cl1_J, okS_0, okS_1, okS_2, okS_3, okS_4, bB_0, bB_and, z_0, z_1, z_10, bB_t, bB_f, Bool.true_eq_false, Bool.false_eq_true, gT0, gT1, gT2, gT3, gT4, gT5, gT6, gF0, gF1, gF2, gF3, gF4, gS0, gS1, gC0, gC1, iT, iF, iS, iC, sT6_0, sT6_1, sF2, sF3, sF4_0, sF4_1, sS1, sC1, e1]
  simp only [s130_440, s130_440n, s130_441, s130_441n, s130_442, s130_443, s130_444, s130_445, s130_446, s130_446n, s130_447, s130_448, s130_449, s130_450, Option.bind_some, Option.bind_none, Option.toList_some, Option.toList_none, List.nil_append, List.cons_append, ↓reduceIte, reduceCtorEq, cl1_i, cl1_r, cl1_n, cl1_0, cl1_J, okS_0, okS_1, okS_2, okS_3, okS_4, bB_0, bB_and, z_0, z_1, z_10, bB_t, bB_f, Bool.true_eq_false, Bool.false_eq_true, gT0, gT1, gT2, gT3, gT4, gT5, gT6, gF0, gF1, gF2, gF3, gF4, gS0, gS1, gC0, gC1, iT, iF, iS, iC, sT6_0, sT6_1, sF2, sF3, sF4_0, sF4_1, sS1, sC1, i1, b1, i2, b2]
  simp only [s130_451, f1.2.2.2.1, Option.bind_some, Option.bind_none, Option.toList_some, Option.toList_none, List.nil_append, List.cons_append, ↓reduceIte, reduceCtorEq, cl1_i, cl1_r, cl1_n, cl1_0, cl1_J, okS_0, okS_1, okS_2, okS_3, okS_4, bB_0, bB_and, z_0, z_1, z_10, bB_t, bB_f, Bool.true_eq_false, Bool.false_eq_true, gT0, gT1, gT2, gT3, gT4, gT5, gT6, gF0, gF1, gF2, gF3, gF4, gS0, gS1, gC0, gC1, iT, iF, iS, iC, sT6_0, sT6_1, sF2, sF3, sF4_0, sF4_1, sS1, sC1, e2]
  simp only [s130_454, Option.bind_some, Option.bind_none, Option.toList_some, Option.toList_none, List.nil_append, List.cons_append, ↓reduceIte, reduceCtorEq, cl1_i, cl1_r, cl1_n, cl1_0, cl1_J, okS_0, okS_1, okS_2, okS_3, okS_4, bB_0, bB_and, z_0, z_1, z_10, bB_t, bB_f, Bool.true_eq_false, Bool.false_eq_true, gT0, gT1, gT2, gT3, gT4, gT5, gT6, gF0, gF1, gF2, gF3, gF4, gS0, gS1, gC0, gC1, iT, iF, iS, iC, sT6_0, sT6_1, sF2, sF3, sF4_0, sF4_1, sS1, sC1]
theorem lo11 (hL : L ≤ 3072) (hi : i + 5 < L) (hI : INV (scr0 L xs) H) : ∃ H2, INV (scr0 L xs) H2 ∧ Run 130 459 [some (.ref 0), some (.ref 1), some (.ref 61), some (.int (nI i))] [] H = Run 130 641 [some (.ref 0), some (.ref 1), some (.ref 61), some (.int (nI i))] [] H2 := by
  obtain ⟨v, H1, H2, e1, e2, hV⟩ := B65 (sc := scr0 L xs) (d := xs (i + 1)) (x := xs (i + 2)) H hI
  obtain ⟨w, rfl⟩ := shI (m := 65) (Or.inl rfl) e1
  have f0 := hI.fm hL
  have f1 := hV.fm hL
  refine ⟨H2, hV.1, ?_⟩
  have i1 : nI i + 1 = nI (i + 1) := nI_add i 1
  have a1 := f0.2.1 (i + 1) (by omega)
  have b1 := f1.2.1 (i + 1) (by omega)
  have i2 : nI i + 2 = nI (i + 2) := nI_add i 2
  have a2 := f0.2.1 (i + 2) (by omega)
  have b2 := f1.2.1 (i + 2) (by omega)
  simp only [s130_459, s130_459n, s130_460, s130_460n, s130_461, s130_462, s130_463, s130_464, s130_465, s130_465n, s130_466, s130_467, s130_468, s130_469, Option.bind_some, Option.bind_none, Option.toList_some, Option.toList_none, List.nil_append, List.cons_append, ↓reduceIte, reduceCtorEq, cl1_i, cl1_r, cl1_n, cl1_0, cl1_J, okS_0, okS_1, okS_2, okS_3, okS_4, bB_0, bB_and, z_0, z_1, z_10, bB_t, bB_f, Bool.true_eq_false, Bool.false_eq_true, gT0, gT1, gT2, gT3, gT4, gT5, gT6, gF0, gF1, gF2, gF3, gF4, gS0, gS1, gC0, gC1, iT, iF, iS, iC, sT6_0, sT6_1, sF2, sF3, sF4_0, sF4_1, sS1, sC1, i1, a1, i2, a2]
  simp only [s130_470, f0.2.2.1, Option.bind_some, Option.bind_none, Option.toList_some, Option.toList_none, List.nil_append, List.cons_append, ↓reduceIte, reduceCtorEq, cl1_i, cl1_r, cl1_n, cl1_0, cl1_J, okS_0, okS_1, okS_2, okS_3, okS_4, bB_0, bB_and, z_0, z_1, z_10, bB_t, bB_f, Bool.true_eq_false, Bool.false_eq_true, gT0, gT1, gT2, gT3, gT4, gT5, gT6, gF0, gF1, gF2, gF3, gF4, gS0, gS1, gC0, gC1, iT, iF, iS, iC, sT6_0, sT6_1, sF2, sF3, sF4_0, sF4_1, sS1, sC1, e1]
  simp only [s130_473, s130_473n, s130_474, s130_474n, s130_475, s130_476, s130_477, s130_478, s130_479, s130_479n, s130_480, s130_481, s130_482, s130_483, Option.bind_some, Option.bind_none, Option.toList_some, Option.toList_none, List.nil_append, List.cons_append, ↓reduceIte, reduceCtorEq, cl1_i, cl1_r, cl1_n, cl1_0, cl1_J, okS_0, okS_1, okS_2, okS_3, okS_4, bB_0, bB_and, z_0, z_1, z_10, bB_t, bB_f, Bool.true_eq_false, Bool.false_eq_true, gT0, gT1, gT2, gT3, gT4, gT5, gT6, gF0, gF1, gF2, gF3, gF4, gS0, gS1, gC0, gC1, iT, iF, iS, iC, sT6_0, sT6_1, sF2, sF3, sF4_0, sF4_1, sS1, sC1, i1, b1, i2, b2]
  simp only [s130_484, f1.2.2.2.1, Option.bind_some, Option.bind_none, Option.toList_some, Option.toList_none, List.nil_append, List.cons_append, ↓reduceIte, reduceCtorEq, cl1_i, cl1_r, cl1_n, cl1_0, cl1_J, okS_0, okS_1, okS_2, okS_3, okS_4, bB_0, bB_and, z_0, z_1, z_10, bB_t, bB_f, Bool.true_eq_false, Bool.false_eq_true, gT0, gT1, gT2, gT3, gT4, gT5, gT6, gF0, gF1, gF2, gF3, gF4, gS0, gS1, gC0, gC1, iT, iF, iS, iC, sT6_0, sT6_1, sF2, sF3, sF4_0, sF4_1, sS1, sC1, e2]
  simp only [s130_487, Option.bind_some, Option.bind_none, Option.toList_some, Option.toList_none, List.nil_append, List.cons_append, ↓reduceIte, reduceCtorEq, cl1_i, cl1_r, cl1_n, cl1_0, cl1_J, okS_0, okS_1, okS_2, okS_3, okS_4, bB_0, bB_and, z_0, z_1, z_10, bB_t, bB_f, Bool.true_eq_false, Bool.false_eq_true, gT0, gT1, gT2, gT3, gT4, gT5, gT6, gF0, gF1, gF2, gF3, gF4, gS0, gS1, gC0, gC1, iT, iF, iS, iC, sT6_0, sT6_1, sF2, sF3, sF4_0, sF4_1, sS1, sC1]
theorem lo12 (hL : L ≤ 3072) (hi : i + 5 < L) (hI : INV (scr0 L xs) H) : ∃ H2, INV (scr0 L xs) H2 ∧ Run 130 492 [some (.ref 0), some (.ref 1), some (.ref 61), some (.int (nI i))] [] H = Run 130 641 [some (.ref 0), some (.ref 1), some (.ref 61), some (.int (nI i))] [] H2 := by
  obtain ⟨w, H1, H2, e1, e2, hV⟩ := B66L (sc := scr0 L xs) (d := xs (i + 1)) (x := xs (i + 2)) H hI
  have f0 := hI.fm hL
  have f1 := hV.fm hL
  refine ⟨H2, hV.1, ?_⟩
  have i1 : nI i + 1 = nI (i + 1) := nI_add i 1
  have a1 := f0.2.1 (i + 1) (by omega)
  have b1 := f1.2.1 (i + 1) (by omega)
  have i2 : nI i + 2 = nI (i + 2) := nI_add i 2
  have a2 := f0.2.1 (i + 2) (by omega)
  have b2 := f1.2.1 (i + 2) (by omega)
  simp only [s130_492, s130_492n, s130_493, s130_493n, s130_494, s130_495, s130_496, s130_497, s130_498, s130_498n, s130_499, s130_500, s130_501, s130_502, Option.bind_some, Option.bind_none, Option.toList_some, Option.toList_none, List.nil_append, List.cons_append, ↓reduceIte, reduceCtorEq, cl1_i, cl1_r, cl1_n, cl1_0, cl1_J, okS_0, okS_1, okS_2, okS_3, okS_4, bB_0, bB_and, z_0, z_1, z_10, bB_t, bB_f, Bool.true_eq_false, Bool.false_eq_true, gT0, gT1, gT2, gT3, gT4, gT5, gT6, gF0, gF1, gF2, gF3, gF4, gS0, gS1, gC0, gC1, iT, iF, iS, iC, sT6_0, sT6_1, sF2, sF3, sF4_0, sF4_1, sS1, sC1, i1, a1, i2, a2]
  simp only [s130_503, f0.2.2.1, Option.bind_some, Option.bind_none, Option.toList_some, Option.toList_none, List.nil_append, List.cons_append, ↓reduceIte, reduceCtorEq, cl1_i, cl1_r, cl1_n, cl1_0, cl1_J, okS_0, okS_1, okS_2, okS_3, okS_4, bB_0, bB_and, z_0, z_1, z_10, bB_t, bB_f, Bool.true_eq_false, Bool.false_eq_true, gT0, gT1, gT2, gT3, gT4, gT5, gT6, gF0, gF1, gF2, gF3, gF4, gS0, gS1, gC0, gC1, iT, iF, iS, iC, sT6_0, sT6_1, sF2, sF3, sF4_0, sF4_1, sS1, sC1, e1]
  simp only [s130_506, s130_506n, s130_507, s130_507n, s130_508, s130_509, s130_510, s130_511, s130_512, s130_512n, s130_513, s130_514, s130_515, s130_516, Option.bind_some, Option.bind_none, Option.toList_some, Option.toList_none, List.nil_append, List.cons_append, ↓reduceIte, reduceCtorEq, cl1_i, cl1_r, cl1_n, cl1_0, cl1_J, okS_0, okS_1, okS_2, okS_3, okS_4, bB_0, bB_and, z_0, z_1, z_10, bB_t, bB_f, Bool.true_eq_false, Bool.false_eq_true, gT0, gT1, gT2, gT3, gT4, gT5, gT6, gF0, gF1, gF2, gF3, gF4, gS0, gS1, gC0, gC1, iT, iF, iS, iC, sT6_0, sT6_1, sF2, sF3, sF4_0, sF4_1, sS1, sC1, i1, b1, i2, b2]
  simp only [s130_517, f1.2.2.2.1, Option.bind_some, Option.bind_none, Option.toList_some, Option.toList_none, List.nil_append, List.cons_append, ↓reduceIte, reduceCtorEq, cl1_i, cl1_r, cl1_n, cl1_0, cl1_J, okS_0, okS_1, okS_2, okS_3, okS_4, bB_0, bB_and, z_0, z_1, z_10, bB_t, bB_f, Bool.true_eq_false, Bool.false_eq_true, gT0, gT1, gT2, gT3, gT4, gT5, gT6, gF0, gF1, gF2, gF3, gF4, gS0, gS1, gC0, gC1, iT, iF, iS, iC, sT6_0, sT6_1, sF2, sF3, sF4_0, sF4_1, sS1, sC1, e2]
  simp only [s130_520, s130_521, lg_cmp_self, Option.bind_some, Option.bind_none, Option.toList_some, Option.toList_none, List.nil_append, List.cons_append, ↓reduceIte, reduceCtorEq, cl1_i, cl1_r, cl1_n, cl1_0, cl1_J, okS_0, okS_1, okS_2, okS_3, okS_4, bB_0, bB_and, z_0, z_1, z_10, bB_t, bB_f, Bool.true_eq_false, Bool.false_eq_true, gT0, gT1, gT2, gT3, gT4, gT5, gT6, gF0, gF1, gF2, gF3, gF4, gS0, gS1, gC0, gC1, iT, iF, iS, iC, sT6_0, sT6_1, sF2, sF3, sF4_0, sF4_1, sS1, sC1]
theorem lo13 (hL : L ≤ 3072) (hi : i + 5 < L) (hI : INV (scr0 L xs) H) : ∃ H2, INV (scr0 L xs) H2 ∧ Run 130 526 [some (.ref 0), some (.ref 1), some (.ref 61), some (.int (nI i))] [] H = Run 130 641 [some (.ref 0), some (.ref 1), some (.ref 61), some (.int (nI i))] [] H2 := by
  obtain ⟨v, H1, H2, e1, e2, hV⟩ := B67 (sc := scr0 L xs) (d := xs (i + 1)) (x := xs (i + 2)) H hI
  obtain ⟨w, rfl⟩ := shI (m := 67) (Or.inl rfl) e1
  have f0 := hI.fm hL
  have f1 := hV.fm hL
  refine ⟨H2, hV.1, ?_⟩
  have i1 : nI i + 1 = nI (i + 1) := nI_add i 1
  have a1 := f0.2.1 (i + 1) (by omega)
  have b1 := f1.2.1 (i + 1) (by omega)
  have i2 : nI i + 2 = nI (i + 2) := nI_add i 2
  have a2 := f0.2.1 (i + 2) (by omega)
  have b2 := f1.2.1 (i + 2) (by omega)
  simp only [s130_526, s130_526n, s130_527, s130_527n, s130_528, s130_529, s130_530, s130_531, s130_532, s130_532n, s130_533, s130_534, s130_535, s130_536, Option.bind_some, Option.bind_none, Option.toList_some, Option.toList_none, List.nil_append, List.cons_append, ↓reduceIte, reduceCtorEq, cl1_i, cl1_r, cl1_n, cl1_0, cl1_J, okS_0, okS_1, okS_2, okS_3, okS_4, bB_0, bB_and, z_0, z_1, z_10, bB_t, bB_f, Bool.true_eq_false, Bool.false_eq_true, gT0, gT1, gT2, gT3, gT4, gT5, gT6, gF0, gF1, gF2, gF3, gF4, gS0, gS1, gC0, gC1, iT, iF, iS, iC, sT6_0, sT6_1, sF2, sF3, sF4_0, sF4_1, sS1, sC1, i1, a1, i2, a2]
  simp only [s130_537, f0.2.2.1, Option.bind_some, Option.bind_none, Option.toList_some, Option.toList_none, List.nil_append, List.cons_append, ↓reduceIte, reduceCtorEq, cl1_i, cl1_r, cl1_n, cl1_0, cl1_J, okS_0, okS_1, okS_2, okS_3, okS_4, bB_0, bB_and, z_0, z_1, z_10, bB_t, bB_f, Bool.true_eq_false, Bool.false_eq_true, gT0, gT1, gT2, gT3, gT4, gT5, gT6, gF0, gF1, gF2, gF3, gF4, gS0, gS1, gC0, gC1, iT, iF, iS, iC, sT6_0, sT6_1, sF2, sF3, sF4_0, sF4_1, sS1, sC1, e1]
  simp only [s130_540, s130_540n, s130_541, s130_541n, s130_542, s130_543, s130_544, s130_545, s130_546, s130_546n, s130_547, s130_548, s130_549, s130_550, Option.bind_some, Option.bind_none, Option.toList_some, Option.toList_none, List.nil_append, List.cons_append, ↓reduceIte, reduceCtorEq, cl1_i, cl1_r, cl1_n, cl1_0, cl1_J, okS_0, okS_1, okS_2, okS_3, okS_4, bB_0, bB_and, z_0, z_1, z_10, bB_t, bB_f, Bool.true_eq_false, Bool.false_eq_true, gT0, gT1, gT2, gT3, gT4, gT5, gT6, gF0, gF1, gF2, gF3, gF4, gS0, gS1, gC0, gC1, iT, iF, iS, iC, sT6_0, sT6_1, sF2, sF3, sF4_0, sF4_1, sS1, sC1, i1, b1, i2, b2]
  simp only [s130_551, f1.2.2.2.1, Option.bind_some, Option.bind_none, Option.toList_some, Option.toList_none, List.nil_append, List.cons_append, ↓reduceIte, reduceCtorEq, cl1_i, cl1_r, cl1_n, cl1_0, cl1_J, okS_0, okS_1, okS_2, okS_3, okS_4, bB_0, bB_and, z_0, z_1, z_10, bB_t, bB_f, Bool.true_eq_false, Bool.false_eq_true, gT0, gT1, gT2, gT3, gT4, gT5, gT6, gF0, gF1, gF2, gF3, gF4, gS0, gS1, gC0, gC1, iT, iF, iS, iC, sT6_0, sT6_1, sF2, sF3, sF4_0, sF4_1, sS1, sC1, e2]
  simp only [s130_554, Option.bind_some, Option.bind_none, Option.toList_some, Option.toList_none, List.nil_append, List.cons_append, ↓reduceIte, reduceCtorEq, cl1_i, cl1_r, cl1_n, cl1_0, cl1_J, okS_0, okS_1, okS_2, okS_3, okS_4, bB_0, bB_and, z_0, z_1, z_10, bB_t, bB_f, Bool.true_eq_false, Bool.false_eq_true, gT0, gT1, gT2, gT3, gT4, gT5, gT6, gF0, gF1, gF2, gF3, gF4, gS0, gS1, gC0, gC1, iT, iF, iS, iC, sT6_0, sT6_1, sF2, sF3, sF4_0, sF4_1, sS1, sC1]
theorem lo14 (hL : L ≤ 3072) (hi : i + 5 < L) (hI : INV (scr0 L xs) H) : ∃ H2, INV (scr0 L xs) H2 ∧ Run 130 559 [some (.ref 0), some (.ref 1), some (.ref 61), some (.int (nI i))] [] H = Run 130 641 [some (.ref 0), some (.ref 1), some (.ref 61), some (.int (nI i))] [] H2 := by
  obtain ⟨v, H1, H2, e1, e2, hV⟩ := B68 (sc := scr0 L xs) H hI
  obtain ⟨w, rfl⟩ := shI (m := 68) (Or.inl rfl) e1
  have f0 := hI.fm hL
  have f1 := hV.fm hL
  refine ⟨H2, hV.1, ?_⟩
  simp only [s130_559, s130_559n, Option.bind_some, Option.bind_none, Option.toList_some, Option.toList_none, List.nil_append, List.cons_append, ↓reduceIte, reduceCtorEq, cl1_i, cl1_r, cl1_n, cl1_0, cl1_J, okS_0, okS_1, okS_2, okS_3, okS_4, bB_0, bB_and, z_0, z_1, z_10, bB_t, bB_f, Bool.true_eq_false, Bool.false_eq_true, gT0, gT1, gT2, gT3, gT4, gT5, gT6, gF0, gF1, gF2, gF3, gF4, gS0, gS1, gC0, gC1, iT, iF, iS, iC, sT6_0, sT6_1, sF2, sF3, sF4_0, sF4_1, sS1, sC1]
  simp only [s130_560, f0.2.2.1, Option.bind_some, Option.bind_none, Option.toList_some, Option.toList_none, List.nil_append, List.cons_append, ↓reduceIte, reduceCtorEq, cl1_i, cl1_r, cl1_n, cl1_0, cl1_J, okS_0, okS_1, okS_2, okS_3, okS_4, bB_0, bB_and, z_0, z_1, z_10, bB_t, bB_f, Bool.true_eq_false, Bool.false_eq_true, gT0, gT1, gT2, gT3, gT4, gT5, gT6, gF0, gF1, gF2, gF3, gF4, gS0, gS1, gC0, gC1, iT, iF, iS, iC, sT6_0, sT6_1, sF2, sF3, sF4_0, sF4_1, sS1, sC1, e1]
  simp only [s130_563, s130_563n, Option.bind_some, Option.bind_none, Option.toList_some, Option.toList_none, List.nil_append, List.cons_append, ↓reduceIte, reduceCtorEq, cl1_i, cl1_r, cl1_n, cl1_0, cl1_J, okS_0, okS_1, okS_2, okS_3, okS_4, bB_0, bB_and, z_0, z_1, z_10, bB_t, bB_f, Bool.true_eq_false, Bool.false_eq_true, gT0, gT1, gT2, gT3, gT4, gT5, gT6, gF0, gF1, gF2, gF3, gF4, gS0, gS1, gC0, gC1, iT, iF, iS, iC, sT6_0, sT6_1, sF2, sF3, sF4_0, sF4_1, sS1, sC1]
  simp only [s130_564, f1.2.2.2.1, Option.bind_some, Option.bind_none, Option.toList_some, Option.toList_none, List.nil_append, List.cons_append, ↓reduceIte, reduceCtorEq, cl1_i, cl1_r, cl1_n, cl1_0, cl1_J, okS_0, okS_1, okS_2, okS_3, okS_4, bB_0, bB_and, z_0, z_1, z_10, bB_t, bB_f, Bool.true_eq_false, Bool.false_eq_true, gT0, gT1, gT2, gT3, gT4, gT5, gT6, gF0, gF1, gF2, gF3, gF4, gS0, gS1, gC0, gC1, iT, iF, iS, iC, sT6_0, sT6_1, sF2, sF3, sF4_0, sF4_1, sS1, sC1, e2]
  simp only [s130_567, Option.bind_some, Option.bind_none, Option.toList_some, Option.toList_none, List.nil_append, List.cons_append, ↓reduceIte, reduceCtorEq, cl1_i, cl1_r, cl1_n, cl1_0, cl1_J, okS_0, okS_1, okS_2, okS_3, okS_4, bB_0, bB_and, z_0, z_1, z_10, bB_t, bB_f, Bool.true_eq_false, Bool.false_eq_true, gT0, gT1, gT2, gT3, gT4, gT5, gT6, gF0, gF1, gF2, gF3, gF4, gS0, gS1, gC0, gC1, iT, iF, iS, iC, sT6_0, sT6_1, sF2, sF3, sF4_0, sF4_1, sS1, sC1]
theorem lo15 (hL : L ≤ 3072) (hi : i + 5 < L) (hI : INV (scr0 L xs) H) : ∃ H2, INV (scr0 L xs) H2 ∧ Run 130 572 [some (.ref 0), some (.ref 1), some (.ref 61), some (.int (nI i))] [] H = Run 130 641 [some (.ref 0), some (.ref 1), some (.ref 61), some (.int (nI i))] [] H2 := by
  obtain ⟨v, H1, H2, e1, e2, hV⟩ := B69 (sc := scr0 L xs) (d := xs (i + 1)) (x := xs (i + 2)) H hI
  obtain ⟨w, rfl⟩ := shI (m := 69) (Or.inl rfl) e1
  have f0 := hI.fm hL
  have f1 := hV.fm hL
  refine ⟨H2, hV.1, ?_⟩
  have i1 : nI i + 1 = nI (i + 1) := nI_add i 1
  have a1 := f0.2.1 (i + 1) (by omega)
  have b1 := f1.2.1 (i + 1) (by omega)
  have i2 : nI i + 2 = nI (i + 2) := nI_add i 2
  have a2 := f0.2.1 (i + 2) (by omega)
  have b2 := f1.2.1 (i + 2) (by omega)
  simp only [s130_572, s130_572n, s130_573, s130_573n, s130_574, s130_575, s130_576, s130_577, s130_578, s130_578n, s130_579, s130_580, s130_581, s130_582, Option.bind_some, Option.bind_none, Option.toList_some, Option.toList_none, List.nil_append, List.cons_append, ↓reduceIte, reduceCtorEq, cl1_i, cl1_r, cl1_n, cl1_0, cl1_J, okS_0, okS_1, okS_2, okS_3, okS_4, bB_0, bB_and, z_0, z_1, z_10, bB_t, bB_f, Bool.true_eq_false, Bool.false_eq_true, gT0, gT1, gT2, gT3, gT4, gT5, gT6, gF0, gF1, gF2, gF3, gF4, gS0, gS1, gC0, gC1, iT, iF, iS, iC, sT6_0, sT6_1, sF2, sF3, sF4_0, sF4_1, sS1, sC1, i1, a1, i2, a2]
  simp only [s130_583, f0.2.2.1, Option.bind_some, Option.bind_none, Option.toList_some, Option.toList_none, List.nil_append, List.cons_append, ↓reduceIte, reduceCtorEq, cl1_i, cl1_r, cl1_n, cl1_0, cl1_J, okS_0, okS_1, okS_2, okS_3, okS_4, bB_0, bB_and, z_0, z_1, z_10, bB_t, bB_f, Bool.true_eq_false, Bool.false_eq_true, gT0, gT1, gT2, gT3, gT4, gT5, gT6, gF0, gF1, gF2, gF3, gF4, gS0, gS1, gC0, gC1, iT, iF, iS, iC, sT6_0, sT6_1, sF2, sF3, sF4_0, sF4_1, sS1, sC1, e1]
  simp only [s130_586, s130_586n, s130_587, s130_587n, s130_588, s130_589, s130_590, s130_591, s130_592, s130_592n, s130_593, s130_594, s130_595, s130_596, Option.bind_some, Option.bind_none, Option.toList_some, Option.toList_none, List.nil_append, List.cons_append, ↓reduceIte, reduceCtorEq, cl1_i, cl1_r, cl1_n, cl1_0, cl1_J, okS_0, okS_1, okS_2, okS_3, okS_4, bB_0, bB_and, z_0, z_1, z_10, bB_t, bB_f, Bool.true_eq_false, Bool.false_eq_true, gT0, gT1, gT2, gT3, gT4, gT5, gT6, gF0, gF1, gF2, gF3, gF4, gS0, gS1, gC0, gC1, iT, iF, iS, iC, sT6_0, sT6_1, sF2, sF3, sF4_0, sF4_1, sS1, sC1, i1, b1, i2, b2]
  simp only [s130_597, f1.2.2.2.1, Option.bind_some, Option.bind_none, Option.toList_some, Option.toList_none, List.nil_append, List.cons_append, ↓reduceIte, reduceCtorEq, cl1_i, cl1_r, cl1_n, cl1_0, cl1_J, okS_0, okS_1, okS_2, okS_3, okS_4, bB_0, bB_and, z_0, z_1, z_10, bB_t, bB_f, Bool.true_eq_false, Bool.false_eq_true, gT0, gT1, gT2, gT3, gT4, gT5, gT6, gF0, gF1, gF2, gF3, gF4, gS0, gS1, gC0, gC1, iT, iF, iS, iC, sT6_0, sT6_1, sF2, sF3, sF4_0, sF4_1, sS1, sC1, e2]
  simp only [s130_600, Option.bind_some, Option.bind_none, Option.toList_some, Option.toList_none, List.nil_append, List.cons_append, ↓reduceIte, reduceCtorEq, cl1_i, cl1_r, cl1_n, cl1_0, cl1_J, okS_0, okS_1, okS_2, okS_3, okS_4, bB_0, bB_and, z_0, z_1, z_10, bB_t, bB_f, Bool.true_eq_false, Bool.false_eq_true, gT0, gT1, gT2, gT3, gT4, gT5, gT6, gF0, gF1, gF2, gF3, gF4, gS0, gS1, gC0, gC1, iT, iF, iS, iC, sT6_0, sT6_1, sF2, sF3, sF4_0, sF4_1, sS1, sC1]
theorem lo16 (hL : L ≤ 3072) (hi : i + 5 < L) (hI : INV (scr0 L xs) H) : ∃ H2, INV (scr0 L xs) H2 ∧ Run 130 605 [some (.ref 0), some (.ref 1), some (.ref 61), some (.int (nI i))] [] H = Run 130 641 [some (.ref 0), some (.ref 1), some (.ref 61), some (.int (nI i))] [] H2 := by
  obtain ⟨v, H1, H2, e1, e2, hV⟩ := B70 (sc := scr0 L xs) (d := xs (i + 1)) H hI
  obtain ⟨w, rfl⟩ := shI (m := 70) (Or.inl rfl) e1
  have f0 := hI.fm hL
  have f1 := hV.fm hL
  refine ⟨H2, hV.1, ?_⟩
  have i1 : nI i + 1 = nI (i + 1) := nI_add i 1
  have a1 := f0.2.1 (i + 1) (by omega)
  have b1 := f1.2.1 (i + 1) (by omega)
  simp only [s130_605, s130_605n, s130_606, s130_606n, s130_607, s130_608, s130_609, s130_610, Option.bind_some, Option.bind_none, Option.toList_some, Option.toList_none, List.nil_append, List.cons_append, ↓reduceIte, reduceCtorEq, cl1_i, cl1_r, cl1_n, cl1_0, cl1_J, okS_0, okS_1, okS_2, okS_3, okS_4, bB_0, bB_and, z_0, z_1, z_10, bB_t, bB_f, Bool.true_eq_false, Bool.false_eq_true, gT0, gT1, gT2, gT3, gT4, gT5, gT6, gF0, gF1, gF2, gF3, gF4, gS0, gS1, gC0, gC1, iT, iF, iS, iC, sT6_0, sT6_1, sF2, sF3, sF4_0, sF4_1, sS1, sC1, i1, a1]
  simp only [s130_611, f0.2.2.1, Option.bind_some, Option.bind_none, Option.toList_some, Option.toList_none, List.nil_append, List.cons_append, ↓reduceIte, reduceCtorEq, cl1_i, cl1_r, cl1_n, cl1_0, cl1_J, okS_0, okS_1, okS_2, okS_3, okS_4, bB_0, bB_and, z_0, z_1, z_10, bB_t, bB_f, Bool.true_eq_false, Bool.false_eq_true, gT0, gT1, gT2, gT3, gT4, gT5, gT6, gF0, gF1, gF2, gF3, gF4, gS0, gS1, gC0, gC1, iT, iF, iS, iC, sT6_0, sT6_1, sF2, sF3, sF4_0, sF4_1, sS1, sC1, e1]
  simp only [s130_614, s130_614n, s130_615, s130_615n, s130_616, s130_617, s130_618, s130_619, Option.bind_some, Option.bind_none, Option.toList_some, Option.toList_none, List.nil_append, List.cons_append, ↓reduceIte, reduceCtorEq, cl1_i, cl1_r, cl1_n, cl1_0, cl1_J, okS_0, okS_1, okS_2, okS_3, okS_4, bB_0, bB_and, z_0, z_1, z_10, bB_t, bB_f, Bool.true_eq_false, Bool.false_eq_true, gT0, gT1, gT2, gT3, gT4, gT5, gT6, gF0, gF1, gF2, gF3, gF4, gS0, gS1, gC0, gC1, iT, iF, iS, iC, sT6_0, sT6_1, sF2, sF3, sF4_0, sF4_1, sS1, sC1, i1, b1]
  simp only [s130_620, f1.2.2.2.1, Option.bind_some, Option.bind_none, Option.toList_some, Option.toList_none, List.nil_append, List.cons_append, ↓reduceIte, reduceCtorEq, cl1_i, cl1_r, cl1_n, cl1_0, cl1_J, okS_0, okS_1, okS_2, okS_3, okS_4, bB_0, bB_and, z_0, z_1, z_10, bB_t, bB_f, Bool.true_eq_false, Bool.false_eq_true, gT0, gT1, gT2, gT3, gT4, gT5, gT6, gF0, gF1, gF2, gF3, gF4, gS0, gS1, gC0, gC1, iT, iF, iS, iC, sT6_0, sT6_1, sF2, sF3, sF4_0, sF4_1, sS1, sC1, e2]
  simp only [s130_623, Option.bind_some, Option.bind_none, Option.toList_some, Option.toList_none, List.nil_append, List.cons_append, ↓reduceIte, reduceCtorEq, cl1_i, cl1_r, cl1_n, cl1_0, cl1_J, okS_0, okS_1, okS_2, okS_3, okS_4, bB_0, bB_and, z_0, z_1, z_10, bB_t, bB_f, Bool.true_eq_false, Bool.false_eq_true, gT0, gT1, gT2, gT3, gT4, gT5, gT6, gF0, gF1, gF2, gF3, gF4, gS0, gS1, gC0, gC1, iT, iF, iS, iC, sT6_0, sT6_1, sF2, sF3, sF4_0, sF4_1, sS1, sC1]
theorem lo17 (hL : L ≤ 3072) (hi : i + 5 < L) (hI : INV (scr0 L xs) H) : ∃ H2, INV (scr0 L xs) H2 ∧ Run 130 628 [some (.ref 0), some (.ref 1), some (.ref 61), some (.int (nI i))] [] H = Run 130 641 [some (.ref 0), some (.ref 1), some (.ref 61), some (.int (nI i))] [] H2 := by
  obtain ⟨v, H1, H2, e1, e2, hV⟩ := B71 (sc := scr0 L xs) H hI
  obtain ⟨w, rfl⟩ := shI (m := 71) (Or.inl rfl) e1
  have f0 := hI.fm hL
  have f1 := hV.fm hL
  refine ⟨H2, hV.1, ?_⟩
  simp only [s130_628, s130_628n, Option.bind_some, Option.bind_none, Option.toList_some, Option.toList_none, List.nil_append, List.cons_append, ↓reduceIte, reduceCtorEq, cl1_i, cl1_r, cl1_n, cl1_0, cl1_J, okS_0, okS_1, okS_2, okS_3, okS_4, bB_0, bB_and, z_0, z_1, z_10, bB_t, bB_f, Bool.true_eq_false, Bool.false_eq_true, gT0, gT1, gT2, gT3, gT4, gT5, gT6, gF0, gF1, gF2, gF3, gF4, gS0, gS1, gC0, gC1, iT, iF, iS, iC, sT6_0, sT6_1, sF2, sF3, sF4_0, sF4_1, sS1, sC1]
  simp only [s130_629, f0.2.2.1, Option.bind_some, Option.bind_none, Option.toList_some, Option.toList_none, List.nil_append, List.cons_append, ↓reduceIte, reduceCtorEq, cl1_i, cl1_r, cl1_n, cl1_0, cl1_J, okS_0, okS_1, okS_2, okS_3, okS_4, bB_0, bB_and, z_0, z_1, z_10, bB_t, bB_f, Bool.true_eq_false, Bool.false_eq_true, gT0, gT1, gT2, gT3, gT4, gT5, gT6, gF0, gF1, gF2, gF3, gF4, gS0, gS1, gC0, gC1, iT, iF, iS, iC, sT6_0, sT6_1, sF2, sF3, sF4_0, sF4_1, sS1, sC1, e1]
  simp only [s130_632, s130_632n, Option.bind_some, Option.bind_none, Option.toList_some, Option.toList_none, List.nil_append, List.cons_append, ↓reduceIte, reduceCtorEq, cl1_i, cl1_r, cl1_n, cl1_0, cl1_J, okS_0, okS_1, okS_2, okS_3, okS_4, bB_0, bB_and, z_0, z_1, z_10, bB_t, bB_f, Bool.true_eq_false, Bool.false_eq_true, gT0, gT1, gT2, gT3, gT4, gT5, gT6, gF0, gF1, gF2, gF3, gF4, gS0, gS1, gC0, gC1, iT, iF, iS, iC, sT6_0, sT6_1, sF2, sF3, sF4_0, sF4_1, sS1, sC1]
  simp only [s130_633, f1.2.2.2.1, Option.bind_some, Option.bind_none, Option.toList_some, Option.toList_none, List.nil_append, List.cons_append, ↓reduceIte, reduceCtorEq, cl1_i, cl1_r, cl1_n, cl1_0, cl1_J, okS_0, okS_1, okS_2, okS_3, okS_4, bB_0, bB_and, z_0, z_1, z_10, bB_t, bB_f, Bool.true_eq_false, Bool.false_eq_true, gT0, gT1, gT2, gT3, gT4, gT5, gT6, gF0, gF1, gF2, gF3, gF4, gS0, gS1, gC0, gC1, iT, iF, iS, iC, sT6_0, sT6_1, sF2, sF3, sF4_0, sF4_1, sS1, sC1, e2]
  simp only [s130_636, Option.bind_some, Option.bind_none, Option.toList_some, Option.toList_none, List.nil_append, List.cons_append, ↓reduceIte, reduceCtorEq, cl1_i, cl1_r, cl1_n, cl1_0, cl1_J, okS_0, okS_1, okS_2, okS_3, okS_4, bB_0, bB_and, z_0, z_1, z_10, bB_t, bB_f, Bool.true_eq_false, Bool.false_eq_true, gT0, gT1, gT2, gT3, gT4, gT5, gT6, gF0, gF1, gF2, gF3, gF4, gS0, gS1, gC0, gC1, iT, iF, iS, iC, sT6_0, sT6_1, sF2, sF3, sF4_0, sF4_1, sS1, sC1]
theorem lo_all (hL : L ≤ 3072) (hi : i + 5 < L) (hI : INV (scr0 L xs) H) : ∃ H2, INV (scr0 L xs) H2 ∧ Run 130 27 [some (.ref 0), some (.ref 1), some (.ref 61), some (.int (nI i))] [] H = Run 130 641 [some (.ref 0), some (.ref 1), some (.ref 61), some (.int (nI i))] [] H2 := by
  have f0 := hI.fm hL
  have a0 := f0.2.1 i (by omega)
  simp only [s130_27, s130_27n, s130_28, s130_29, s130_30, s130_32, Option.bind_some, Option.bind_none, Option.toList_some, Option.toList_none, List.nil_append, List.cons_append, ↓reduceIte, reduceCtorEq, cl1_i, cl1_r, cl1_n, cl1_0, cl1_J, okS_0, okS_1, okS_2, okS_3, okS_4, bB_0, bB_and, z_0, z_1, z_10, bB_t, bB_f, Bool.true_eq_false, Bool.false_eq_true, gT0, gT1, gT2, gT3, gT4, gT5, gT6, gF0, gF1, gF2, gF3, gF4, gS0, gS1, gC0, gC1, iT, iF, iS, iC, sT6_0, sT6_1, sF2, sF3, sF4_0, sF4_1, sS1, sC1, a0]
  rw [s130_33]
  by_cases h0 : xs i &&& 31 = 0
  · rw [if_pos h0]; exact lo0 hL hi hI
  rw [if_neg h0]
  by_cases h1 : xs i &&& 31 = 1
  · rw [if_pos h1]; exact lo1 hL hi hI
  rw [if_neg h1]
  by_cases h2 : xs i &&& 31 = 2
  · rw [if_pos h2]; exact lo2 hL hi hI
  rw [if_neg h2]
  by_cases h3 : xs i &&& 31 = 3
  · rw [if_pos h3]; exact lo3 hL hi hI
  rw [if_neg h3]
  by_cases h4 : xs i &&& 31 = 4
  · rw [if_pos h4]; exact lo4 hL hi hI
  rw [if_neg h4]
  by_cases h5 : xs i &&& 31 = 5
  · rw [if_pos h5]; exact lo5 hL hi hI
  rw [if_neg h5]
  by_cases h6 : xs i &&& 31 = 6
  · rw [if_pos h6]; exact lo6 hL hi hI
  rw [if_neg h6]
  by_cases h7 : xs i &&& 31 = 7
  · rw [if_pos h7]; exact lo7 hL hi hI
  rw [if_neg h7]
  by_cases h8 : xs i &&& 31 = 8
  · rw [if_pos h8]; exact lo8 hL hi hI
  rw [if_neg h8]
  by_cases h9 : xs i &&& 31 = 9
  · rw [if_pos h9]; exact lo9 hL hi hI
  rw [if_neg h9]
  by_cases h10 : xs i &&& 31 = 10
  · rw [if_pos h10]; exact lo10 hL hi hI
  rw [if_neg h10]
  by_cases h11 : xs i &&& 31 = 11
  · rw [if_pos h11]; exact lo11 hL hi hI
  rw [if_neg h11]
  by_cases h12 : xs i &&& 31 = 12
  · rw [if_pos h12]; exact lo12 hL hi hI
  rw [if_neg h12]
  by_cases h13 : xs i &&& 31 = 13
  · rw [if_pos h13]; exact lo13 hL hi hI
  rw [if_neg h13]
  by_cases h14 : xs i &&& 31 = 14
  · rw [if_pos h14]; exact lo14 hL hi hI
  rw [if_neg h14]
  by_cases h15 : xs i &&& 31 = 15
  · rw [if_pos h15]; exact lo15 hL hi hI
  rw [if_neg h15]
  by_cases h16 : xs i &&& 31 = 16
  · rw [if_pos h16]; exact lo16 hL hi hI
  rw [if_neg h16]
  by_cases h17 : xs i &&& 31 = 17
  · rw [if_pos h17]; exact lo17 hL hi hI
  rw [if_neg h17]
  exact ⟨H, hI, rfl⟩
theorem ofN_sub {L : Nat} (h : 6 ≤ L) : nI L - 6 = nI (L - 6) := by
  obtain ⟨a, rfl⟩ : ∃ a, L = a + 6 := ⟨L - 6, by omega⟩
  have : nI (a + 6) = nI a + 6 := (nI_add a 6).symm
  rw [this, Int32.add_sub_cancel, Nat.add_sub_cancel]
theorem ofN_neg : ∀ L, L < 6 → (nI L - 6).toInt < 0 := by decide
theorem law_loop (hL : L ≤ 3072) : ∀ (n i : Nat) (H : AH), L ≤ i + n → i ≤ 4000 → INV (scr0 L xs) H → ∃ H', INV (scr0 L xs) H' ∧ Run 130 18 [some (.ref 0), some (.ref 1), some (.ref 61), some (.int (nI i))] [] H = some (some (.int 1), H') := by
  intro n
  induction n with
  | zero =>
    intro i H h1 h2 hI
    have f0 := hI.fm hL
    have h3 : nI L - 6 < nI i := by
      by_cases h6 : 6 ≤ L
      · rw [ofN_sub h6]; exact nI_lt (by omega) (by omega)
      · rw [Int32.lt_iff_toInt_lt, nI_toInt (show i < 2 ^ 31 by omega)]
        have := ofN_neg L (by omega)
        omega
    refine ⟨H, hI, ?_⟩
    simp only [s130_18, s130_19, s130_19n, s130_20, s130_21, s130_23, s130_24, Option.bind_some, Option.bind_none, Option.toList_some, Option.toList_none, List.nil_append, List.cons_append, ↓reduceIte, reduceCtorEq, cl1_i, cl1_r, cl1_n, cl1_0, cl1_J, okS_0, okS_1, okS_2, okS_3, okS_4, bB_0, bB_and, z_0, z_1, z_10, bB_t, bB_f, Bool.true_eq_false, Bool.false_eq_true, gT0, gT1, gT2, gT3, gT4, gT5, gT6, gF0, gF1, gF2, gF3, gF4, gS0, gS1, gC0, gC1, iT, iF, iS, iC, sT6_0, sT6_1, sF2, sF3, sF4_0, sF4_1, sS1, sC1, f0.1, h3]
    simp only [s130_647, s130_648, Option.bind_some, Option.bind_none, Option.toList_some, Option.toList_none, List.nil_append, List.cons_append, ↓reduceIte, reduceCtorEq, cl1_i, cl1_r, cl1_n, cl1_0, cl1_J, okS_0, okS_1, okS_2, okS_3, okS_4, bB_0, bB_and, z_0, z_1, z_10, bB_t, bB_f, Bool.true_eq_false, Bool.false_eq_true, gT0, gT1, gT2, gT3, gT4, gT5, gT6, gF0, gF1, gF2, gF3, gF4, gS0, gS1, gC0, gC1, iT, iF, iS, iC, sT6_0, sT6_1, sF2, sF3, sF4_0, sF4_1, sS1, sC1]
  | succ n ih =>
    intro i H h1 h2 hI
    have f0 := hI.fm hL
    by_cases h9 : i + 5 < L
    · have h3 : ¬ nI L - 6 < nI i := by
        rw [ofN_sub (by omega)]
        exact nI_nlt (by omega) (by omega)
      obtain ⟨H2, hI2, e1⟩ := lo_all hL h9 hI
      obtain ⟨H', hI', e2⟩ := ih (i + 6) H2 (by omega) (by omega) hI2
      refine ⟨H', hI', ?_⟩
      have e3 : nI i + 6 = nI (i + 6) := nI_add i 6
      rw [← e2]
      rw [s130_18]
      simp only [s130_19, s130_19n, s130_20, s130_21, s130_23, s130_24, Option.bind_some, Option.bind_none, Option.toList_some, Option.toList_none, List.nil_append, List.cons_append, ↓reduceIte, reduceCtorEq, cl1_i, cl1_r, cl1_n, cl1_0, cl1_J, okS_0, okS_1, okS_2, okS_3, okS_4, bB_0, bB_and, z_0, z_1, z_10, bB_t, bB_f, Bool.true_eq_false, Bool.false_eq_true, gT0, gT1, gT2, gT3, gT4, gT5, gT6, gF0, gF1, gF2, gF3, gF4, gS0, gS1, gC0, gC1, iT, iF, iS, iC, sT6_0, sT6_1, sF2, sF3, sF4_0, sF4_1, sS1, sC1, f0.1, h3]
      rw [e1]
      simp only [s130_641, s130_644, Option.bind_some, Option.bind_none, Option.toList_some, Option.toList_none, List.nil_append, List.cons_append, ↓reduceIte, reduceCtorEq, cl1_i, cl1_r, cl1_n, cl1_0, cl1_J, okS_0, okS_1, okS_2, okS_3, okS_4, bB_0, bB_and, z_0, z_1, z_10, bB_t, bB_f, Bool.true_eq_false, Bool.false_eq_true, gT0, gT1, gT2, gT3, gT4, gT5, gT6, gF0, gF1, gF2, gF3, gF4, gS0, gS1, gC0, gC1, iT, iF, iS, iC, sT6_0, sT6_1, sF2, sF3, sF4_0, sF4_1, sS1, sC1, e3]
    · have h3 : nI L - 6 < nI i := by
        by_cases h6 : 6 ≤ L
        · rw [ofN_sub h6]; exact nI_lt (by omega) (by omega)
        · rw [Int32.lt_iff_toInt_lt, nI_toInt (show i < 2 ^ 31 by omega)]
          have := ofN_neg L (by omega)
          omega
      refine ⟨H, hI, ?_⟩
      simp only [s130_18, s130_19, s130_19n, s130_20, s130_21, s130_23, s130_24, Option.bind_some, Option.bind_none, Option.toList_some, Option.toList_none, List.nil_append, List.cons_append, ↓reduceIte, reduceCtorEq, cl1_i, cl1_r, cl1_n, cl1_0, cl1_J, okS_0, okS_1, okS_2, okS_3, okS_4, bB_0, bB_and, z_0, z_1, z_10, bB_t, bB_f, Bool.true_eq_false, Bool.false_eq_true, gT0, gT1, gT2, gT3, gT4, gT5, gT6, gF0, gF1, gF2, gF3, gF4, gS0, gS1, gC0, gC1, iT, iF, iS, iC, sT6_0, sT6_1, sF2, sF3, sF4_0, sF4_1, sS1, sC1, f0.1, h3]
      simp only [s130_647, s130_648, Option.bind_some, Option.bind_none, Option.toList_some, Option.toList_none, List.nil_append, List.cons_append, ↓reduceIte, reduceCtorEq, cl1_i, cl1_r, cl1_n, cl1_0, cl1_J, okS_0, okS_1, okS_2, okS_3, okS_4, bB_0, bB_and, z_0, z_1, z_10, bB_t, bB_f, Bool.true_eq_false, Bool.false_eq_true, gT0, gT1, gT2, gT3, gT4, gT5, gT6, gF0, gF1, gF2, gF3, gF4, gS0, gS1, gC0, gC1, iT, iF, iS, iC, sT6_0, sT6_1, sF2, sF3, sF4_0, sF4_1, sS1, sC1]
def r0 : RgS := ((fun _ => 0, fun _ => 0, fun _ => 0, fun _ => 0), (0, 0, 0, 0))
theorem inv0 {sc : AC} : INV sc (hp sc (fB fb0) op0 op0 (fun _ => 0) (fun _ => 0) (fun _ => 0) 0 (fun _ => l0) (hM (mS fb0 false 0 r0 op0 op0))) := by
  have hB : BOk fb0 := BOk_of fun j hj => ⟨255, by decide, by show flN 1024 j = _; unfold flN; rw [if_pos hj]; rfl⟩
  have hg : ∀ b, b < 16 → nx fb0 b 1 = none := fun b hb => by
    unfold nx
    have : gB fb0 (b * 64 + 1) = 255 := by
      show (flN 1024 (b * 64 + 1)).toNatClampNeg = 255
      unfold flN
      rw [if_pos (by omega)]
      rfl
    rw [this]
    exact if_neg (fun h => by omega)
  have hX : IX fb0 (fun _ => none) := ⟨hB, Or.inl rfl, fun q hq => ⟨hg _ (by omega), hg _ (by omega)⟩⟩
  have h0 : ∀ x, Rch (lsO (fun _ => none)) 0 x → x = 0 := fun x hx => Rch.in (P := fun x => x = 0) rfl (fun x hx y hy => by cases hy) hx
  have hS : Sh (fun _ => none) := ⟨fun x hx hn => absurd (h0 x hx) hn, fun x y hx hy _ _ => by rw [h0 x hx, h0 y hy]⟩
  exact ⟨fb0, op0, op0, _, _, _, false, _, 0, r0, op0, op0, _, rfl, hX, hS, fun h => by cases h⟩
theorem law_run (xs : Nat → Int32) (hL : L ≤ 3072) : ∃ h', RunM 130 [.ref 0] [scr0 L xs] = some (some (.int 1), h') ∧ h'.length ≤ 600001 ∧ sl h' ≤ 7302250 + L := by
  obtain ⟨H', hI, e⟩ := law_loop hL L 0 _ (by omega) (by omega) (inv0 (sc := scr0 L xs))
  have f := hI.fm hL
  refine ⟨H', ?_, by have := f.2.2.2.2.1; omega, f.2.2.2.2.2⟩
  have r88 : RunM 88 [.ref 61] (hp (scr0 L xs) (fB fb0) op0 op0 (fun _ => 0) (fun _ => 0) (fun _ => 0) 0 (fun _ => l0) [] ++ [newO 5]) = some (none, hp (scr0 L xs) (fB fb0) op0 op0 (fun _ => 0) (fun _ => 0) (fun _ => 0) 0 (fun _ => l0) (hM (mS fb0 false 0 r0 op0 op0))) := c88 (h := hp (scr0 L xs) (fB fb0) op0 op0 (fun _ => 0) (fun _ => 0) (fun _ => 0) 0 (fun _ => l0) []) (n := 61) rfl (by decide)
  have hlen : (hp (scr0 L xs) (fB fb0) op0 op0 (fun _ => 0) (fun _ => 0) (fun _ => 0) 0 (fun _ => l0) []).length = 61 := rfl
  rw [← e, nI_0]
  simp only [e130, s130_0, s130_3, List.length_cons, List.length_nil, Nat.zero_add, List.cons_append, List.nil_append]
  simp only [s130_4, Option.bind_some, Option.bind_none, Option.toList_some, Option.toList_none, List.nil_append, List.cons_append, ↓reduceIte, reduceCtorEq, cl1_i, cl1_r, cl1_n, cl1_0, cl1_J, okS_0, okS_1, okS_2, okS_3, okS_4, bB_0, bB_and, z_0, z_1, z_10, bB_t, bB_f, Bool.true_eq_false, Bool.false_eq_true, gT0, gT1, gT2, gT3, gT4, gT5, gT6, gF0, gF1, gF2, gF3, gF4, gS0, gS1, gC0, gC1, iT, iF, iS, iC, sT6_0, sT6_1, sF2, sF3, sF4_0, sF4_1, sS1, sC1, c53]
  simp only [s130_7, s130_7n, Option.bind_some, Option.bind_none, Option.toList_some, Option.toList_none, List.nil_append, List.cons_append, ↓reduceIte, reduceCtorEq, cl1_i, cl1_r, cl1_n, cl1_0, cl1_J, okS_0, okS_1, okS_2, okS_3, okS_4, bB_0, bB_and, z_0, z_1, z_10, bB_t, bB_f, Bool.true_eq_false, Bool.false_eq_true, gT0, gT1, gT2, gT3, gT4, gT5, gT6, gF0, gF1, gF2, gF3, gF4, gS0, gS1, gC0, gC1, iT, iF, iS, iC, sT6_0, sT6_1, sF2, sF3, sF4_0, sF4_1, sS1, sC1]
  rw [s130_8, hlen]
  simp only [s130_11]
  simp only [s130_12, Option.bind_some, Option.bind_none, Option.toList_some, Option.toList_none, List.nil_append, List.cons_append, ↓reduceIte, reduceCtorEq, cl1_i, cl1_r, cl1_n, cl1_0, cl1_J, okS_0, okS_1, okS_2, okS_3, okS_4, bB_0, bB_and, z_0, z_1, z_10, bB_t, bB_f, Bool.true_eq_false, Bool.false_eq_true, gT0, gT1, gT2, gT3, gT4, gT5, gT6, gF0, gF1, gF2, gF3, gF4, gS0, gS1, gC0, gC1, iT, iF, iS, iC, sT6_0, sT6_1, sF2, sF3, sF4_0, sF4_1, sS1, sC1, r88]
  simp only [s130_15, s130_15n, s130_16, s130_17, Option.bind_some, Option.bind_none, Option.toList_some, Option.toList_none, List.nil_append, List.cons_append, ↓reduceIte, reduceCtorEq, cl1_i, cl1_r, cl1_n, cl1_0, cl1_J, okS_0, okS_1, okS_2, okS_3, okS_4, bB_0, bB_and, z_0, z_1, z_10, bB_t, bB_f, Bool.true_eq_false, Bool.false_eq_true, gT0, gT1, gT2, gT3, gT4, gT5, gT6, gF0, gF1, gF2, gF3, gF4, gS0, gS1, gC0, gC1, iT, iF, iS, iC, sT6_0, sT6_1, sF2, sF3, sF4_0, sF4_1, sS1, sC1]
end LAW
