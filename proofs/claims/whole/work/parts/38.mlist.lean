/-! ===== The reference: its list ===== -/
def MgE (R : RgS) (k : Nat) (e : En) : Prop := R.1.1 k = nI e.1 ∧ R.1.2.1 k = nI e.2.1 ∧ R.1.2.2.1 k = nI e.2.2.1 ∧ R.1.2.2.2 k = e.2.2.2
def MgM (R : RgS) (mk : Option (Nat × Nat)) : Prop := match mk with
  | none => R.2.2.2.1 = 0
  | some p => R.2.2.1 = nI p.1 ∧ R.2.2.2.1 = nI p.2
def MgR (R : RgS) (es : List En) (mk : Option (Nat × Nat)) : Prop := es.length ≤ 4 ∧ R.2.1 = nI es.length ∧ (∀ (k : Nat) (e : En), es[k]? = some e → MgE R k e ∧ OkE e) ∧ MgM R mk
theorem MgE.set_self (R : RgS) (k : Nat) (e : En) (r : Int32 × Int32 × Int32 × Int32) : MgE ((upd R.1.1 k (nI e.1), upd R.1.2.1 k (nI e.2.1), upd R.1.2.2.1 k (nI e.2.2.1), vp_updL R.1.2.2.2 k e.2.2.2), r) k e := by
  simp [MgE, upd, vp_updL]
theorem MgE.set_ne {R : RgS} {k j : Nat} {x : En} (a b c : Int32) (d : Int64) (r : Int32 × Int32 × Int32 × Int32) (h : MgE R j x) (hj : j ≠ k) : MgE ((upd R.1.1 k a, upd R.1.2.1 k b, upd R.1.2.2.1 k c, vp_updL R.1.2.2.2 k d), r) j x := by
  simpa [MgE, upd, vp_updL, hj] using h
theorem oI_neg {o : Option Nat} (h : ∀ n, o = some n → n < 2 ^ 31) : (oI o < 0) = (o = none) := by
  cases o with
  | none => simp only [oI]; decide
  | some n => simp [oI, nI_pos (h n rfl)]
section ML
variable {sc : AC} {F : FlS} {s c : OpS} {th be qu : Nat → Int32} {mo : Int32} {li : Nat → LiS} {f : FB} {mt : Bool} {jl : Int32} {R : RgS} {O A : OpS} {es : List En} {mk : Option (Nat × Nat)}
theorem c97_loop (hL : MgR R es mk) {x : Int32} : ∀ (t : List En) (k : Nat), k ≤ es.length → es.drop k = t → Run 97 2 [some (.ref 61), some (.int x), some (.int (nI k))] [] (hp sc F s c th be qu mo li (hM (mS f mt jl R O A))) = some (some (.int (oI (fiA t k x))), (hp sc F s c th be qu mo li (hM (mS f mt jl R O A)))) := by
  have h4 := hL.1
  intro t
  induction t with
  | nil =>
    intro k hk h
    have h5 : es.length ≤ k := List.drop_eq_nil_iff.mp h
    have h3 : ¬ nI k < nI es.length := nI_nlt h5 (by omega)
    simp only [s97_2, s97_3, s97_3n, s97_4, s97_7, s97_28, s97_29, Option.bind_some, Option.bind_none, Option.toList_some, Option.toList_none, List.nil_append, List.cons_append, ↓reduceIte, reduceCtorEq, cl1_i, cl1_r, cl1_n, cl1_0, cl1_J, okS_0, okS_1, okS_2, okS_3, okS_4, bB_0, bB_and, z_0, z_1, z_10, bB_t, bB_f, Bool.true_eq_false, Bool.false_eq_true, gT0, gT1, gT2, gT3, gT4, gT5, gT6, gF0, gF1, gF2, gF3, gF4, gS0, gS1, gC0, gC1, iT, iF, iS, iC, sT6_0, sT6_1, sF2, sF3, sF4_0, sF4_1, sS1, sC1, gM0, gM1, gM2, gM3, gM4, gM5, gM6, gM7, gM8, gM9, gM10, gM11, gM12, gM13, gM14, gM15, gM16, gM17, gM18, iM, sM5, sM6, sM11, sM12, sM13, sM14, sM16, sM18, sM2_0, sM2_1, sM3_0, sM3_1, sM4_0, sM4_1, mS_0, mS_1, mS_2, mS_3, mS_4, mS_5, mS_6, mS_7, mS_8, mS_9, mS_10, mS_11, mS_12, mS_13, mS_14, mS_15, mS_16, mS_17, mS_18, decide_true, decide_false, Bool.not_true, Bool.not_false, hL.2.1, h3]
    rfl
  | cons e t ih =>
    intro k hk h
    obtain ⟨h5, h6, h7⟩ := dropC h
    have h3 : nI k < nI es.length := nI_lt h5 (by omega)
    have h9 := (hL.2.2.1 k e h6).1.1
    simp only [s97_2, s97_3, s97_3n, s97_4, s97_7, s97_10, s97_10n, s97_11, s97_14, s97_15, s97_16, s97_17, Option.bind_some, Option.bind_none, Option.toList_some, Option.toList_none, List.nil_append, List.cons_append, ↓reduceIte, reduceCtorEq, cl1_i, cl1_r, cl1_n, cl1_0, cl1_J, okS_0, okS_1, okS_2, okS_3, okS_4, bB_0, bB_and, z_0, z_1, z_10, bB_t, bB_f, Bool.true_eq_false, Bool.false_eq_true, gT0, gT1, gT2, gT3, gT4, gT5, gT6, gF0, gF1, gF2, gF3, gF4, gS0, gS1, gC0, gC1, iT, iF, iS, iC, sT6_0, sT6_1, sF2, sF3, sF4_0, sF4_1, sS1, sC1, gM0, gM1, gM2, gM3, gM4, gM5, gM6, gM7, gM8, gM9, gM10, gM11, gM12, gM13, gM14, gM15, gM16, gM17, gM18, iM, sM5, sM6, sM11, sM12, sM13, sM14, sM16, sM18, sM2_0, sM2_1, sM3_0, sM3_1, sM4_0, sM4_1, mS_0, mS_1, mS_2, mS_3, mS_4, mS_5, mS_6, mS_7, mS_8, mS_9, mS_10, mS_11, mS_12, mS_13, mS_14, mS_15, mS_16, mS_17, mS_18, decide_true, decide_false, Bool.not_true, Bool.not_false, hL.2.1, h3, a64 (inB_nI (show k < 4 by omega) (by decide)), nI_clamp (show k < 2 ^ 31 by omega), h9]
    unfold fiA
    by_cases hx : nI e.1 = x
    · rw [if_pos hx, if_pos hx]
      simp only [s97_20, s97_21, Option.bind_some, Option.bind_none, Option.toList_some, Option.toList_none, List.nil_append, List.cons_append, ↓reduceIte, reduceCtorEq, cl1_i, cl1_r, cl1_n, cl1_0, cl1_J, okS_0, okS_1, okS_2, okS_3, okS_4, bB_0, bB_and, z_0, z_1, z_10, bB_t, bB_f, Bool.true_eq_false, Bool.false_eq_true, gT0, gT1, gT2, gT3, gT4, gT5, gT6, gF0, gF1, gF2, gF3, gF4, gS0, gS1, gC0, gC1, iT, iF, iS, iC, sT6_0, sT6_1, sF2, sF3, sF4_0, sF4_1, sS1, sC1]
      rfl
    · rw [if_neg hx, if_neg hx]
      simp only [s97_22, s97_25, Option.bind_some, Option.bind_none, Option.toList_some, Option.toList_none, List.nil_append, List.cons_append, ↓reduceIte, reduceCtorEq, cl1_i, cl1_r, cl1_n, cl1_0, cl1_J, okS_0, okS_1, okS_2, okS_3, okS_4, bB_0, bB_and, z_0, z_1, z_10, bB_t, bB_f, Bool.true_eq_false, Bool.false_eq_true, gT0, gT1, gT2, gT3, gT4, gT5, gT6, gF0, gF1, gF2, gF3, gF4, gS0, gS1, gC0, gC1, iT, iF, iS, iC, sT6_0, sT6_1, sF2, sF3, sF4_0, sF4_1, sS1, sC1, nI_1]
      exact ih (k + 1) h5 h7
theorem c97 (hL : MgR R es mk) {x : Int32} : RunM 97 [.ref 61, .int x] (hp sc F s c th be qu mo li (hM (mS f mt jl R O A))) = some (some (.int (oI (fiE es x))), (hp sc F s c th be qu mo li (hM (mS f mt jl R O A)))) := by
  simp only [e97, s97_0, s97_1, Option.bind_some, Option.bind_none, Option.toList_some, Option.toList_none, List.nil_append, List.cons_append, ↓reduceIte, reduceCtorEq, cl1_i, cl1_r, cl1_n, cl1_0, cl1_J, okS_0, okS_1, okS_2, okS_3, okS_4, bB_0, bB_and, z_0, z_1, z_10, bB_t, bB_f, Bool.true_eq_false, Bool.false_eq_true, gT0, gT1, gT2, gT3, gT4, gT5, gT6, gF0, gF1, gF2, gF3, gF4, gS0, gS1, gC0, gC1, iT, iF, iS, iC, sT6_0, sT6_1, sF2, sF3, sF4_0, sF4_1, sS1, sC1]
  have := c97_loop (sc := sc) (F := F) (s := s) (c := c) (th := th) (be := be) (qu := qu) (mo := mo) (li := li) (f := f) (mt := mt) (jl := jl) (O := O) (A := A) hL (x := x) es 0 (Nat.zero_le _) rfl
  rw [nI_0] at this
  exact this
theorem fi_neg {x : Int32} (h4 : es.length ≤ 4) : (oI (fiE es x) < 0) = (fiE es x = none) := oI_neg fun n h => by have := (fiE_lt h).1; omega
theorem c98_end {k : Nat} (hk : k < 4) {a b d : Int32} {x : Int64} : Run 98 28 [some (.ref 61), some (.int a), some (.int b), some (.int d), some (.long x), none, some (.int (nI k))] [] (hp sc F s c th be qu mo li (hM (mS f mt jl R O A))) = some (none, (hp sc F s c th be qu mo li (hM (mS f mt jl (((upd R.1.1 k a, upd R.1.2.1 k b, upd R.1.2.2.1 k d, vp_updL R.1.2.2.2 k x), R.2)) O A)))) := by
  have hi : inB (nI k) 4 = true := inB_nI (by omega) (by decide)
  simp only [s98_28, s98_28n, s98_29, s98_32, s98_34, s98_35, s98_36, s98_36n, s98_37, s98_40, s98_42, s98_43, s98_44, s98_44n, s98_45, s98_48, s98_50, s98_51, s98_52, s98_52n, s98_53, s98_56, s98_58, s98_60, s98_61, Option.bind_some, Option.bind_none, Option.toList_some, Option.toList_none, List.nil_append, List.cons_append, ↓reduceIte, reduceCtorEq, cl1_i, cl1_r, cl1_n, cl1_0, cl1_J, okS_0, okS_1, okS_2, okS_3, okS_4, bB_0, bB_and, z_0, z_1, z_10, bB_t, bB_f, Bool.true_eq_false, Bool.false_eq_true, gT0, gT1, gT2, gT3, gT4, gT5, gT6, gF0, gF1, gF2, gF3, gF4, gS0, gS1, gC0, gC1, iT, iF, iS, iC, sT6_0, sT6_1, sF2, sF3, sF4_0, sF4_1, sS1, sC1, gM0, gM1, gM2, gM3, gM4, gM5, gM6, gM7, gM8, gM9, gM10, gM11, gM12, gM13, gM14, gM15, gM16, gM17, gM18, iM, sM5, sM6, sM11, sM12, sM13, sM14, sM16, sM18, sM2_0, sM2_1, sM3_0, sM3_1, sM4_0, sM4_1, mS_0, mS_1, mS_2, mS_3, mS_4, mS_5, mS_6, mS_7, mS_8, mS_9, mS_10, mS_11, mS_12, mS_13, mS_14, mS_15, mS_16, mS_17, mS_18, decide_true, decide_false, Bool.not_true, Bool.not_false, t64 hi, t65 hi, t66 hi, t67 hi, nI_clamp (show k < 2 ^ 31 by omega)]
  rfl
theorem c98 (hL : MgR R es mk) {e : En} (he : OkE e) (hf : fiE es (nI e.1) = none → es.length < 4) : ∃ R', RunM 98 [.ref 61, .int (nI e.1), .int (nI e.2.1), .int (nI e.2.2.1), .long e.2.2.2] (hp sc F s c th be qu mo li (hM (mS f mt jl R O A))) = some (none, (hp sc F s c th be qu mo li (hM (mS f mt jl (R') O A)))) ∧ MgR R' (putE es e) mk ∧ R'.2.2.2.2 = R.2.2.2.2 := by
  have h4 := hL.1
  cases hx : fiE es (nI e.1) with
  | some k =>
    have hk := (fiE_lt hx).1
    refine ⟨((upd R.1.1 k (nI e.1), upd R.1.2.1 k (nI e.2.1), upd R.1.2.2.1 k (nI e.2.2.1), vp_updL R.1.2.2.2 k e.2.2.2), R.2), ?_, ?_, rfl⟩
    · have ho : oI (some k) = nI k := rfl
      simp only [e98, s98_0, s98_0n, s98_1, s98_2, s98_5, s98_7, s98_9, Option.bind_some, Option.bind_none, Option.toList_some, Option.toList_none, List.nil_append, List.cons_append, ↓reduceIte, reduceCtorEq, cl1_i, cl1_r, cl1_n, cl1_0, cl1_J, okS_0, okS_1, okS_2, okS_3, okS_4, bB_0, bB_and, z_0, z_1, z_10, bB_t, bB_f, Bool.true_eq_false, Bool.false_eq_true, gT0, gT1, gT2, gT3, gT4, gT5, gT6, gF0, gF1, gF2, gF3, gF4, gS0, gS1, gC0, gC1, iT, iF, iS, iC, sT6_0, sT6_1, sF2, sF3, sF4_0, sF4_1, sS1, sC1, gM0, gM1, gM2, gM3, gM4, gM5, gM6, gM7, gM8, gM9, gM10, gM11, gM12, gM13, gM14, gM15, gM16, gM17, gM18, iM, sM5, sM6, sM11, sM12, sM13, sM14, sM16, sM18, sM2_0, sM2_1, sM3_0, sM3_1, sM4_0, sM4_1, mS_0, mS_1, mS_2, mS_3, mS_4, mS_5, mS_6, mS_7, mS_8, mS_9, mS_10, mS_11, mS_12, mS_13, mS_14, mS_15, mS_16, mS_17, mS_18, decide_true, decide_false, Bool.not_true, Bool.not_false, c97 hL, hx, ho, nI_pos (show k < 2 ^ 31 by omega)]
      exact c98_end (by omega)
    · simp only [putE, hx]
      refine ⟨by simpa using h4, by simpa using hL.2.1, fun j x hj => ?_, hL.2.2.2⟩
      by_cases hjk : j = k
      · subst hjk
        rw [List.getElem?_set_self hk] at hj
        cases hj
        exact ⟨MgE.set_self _ _ _ _, he⟩
      · rw [List.getElem?_set_ne (Ne.symm hjk)] at hj
        exact ⟨MgE.set_ne _ _ _ _ _ (hL.2.2.1 j x hj).1 hjk, (hL.2.2.1 j x hj).2⟩
  | none =>
    have hn := hf hx
    refine ⟨((upd R.1.1 es.length (nI e.1), upd R.1.2.1 es.length (nI e.2.1), upd R.1.2.2.1 es.length (nI e.2.2.1), vp_updL R.1.2.2.2 es.length e.2.2.2), (nI (es.length + 1), R.2.2)), ?_, ?_, rfl⟩
    · have ho : oI none = -1 := rfl
      have hm : (-1 : Int32) < 0 := by decide
      simp only [e98, s98_0, s98_0n, s98_1, s98_2, s98_5, s98_7, s98_9, s98_12, s98_12n, s98_13, s98_16, s98_18, s98_18n, s98_19, s98_19n, s98_20, s98_23, s98_24, s98_25, Option.bind_some, Option.bind_none, Option.toList_some, Option.toList_none, List.nil_append, List.cons_append, ↓reduceIte, reduceCtorEq, cl1_i, cl1_r, cl1_n, cl1_0, cl1_J, okS_0, okS_1, okS_2, okS_3, okS_4, bB_0, bB_and, z_0, z_1, z_10, bB_t, bB_f, Bool.true_eq_false, Bool.false_eq_true, gT0, gT1, gT2, gT3, gT4, gT5, gT6, gF0, gF1, gF2, gF3, gF4, gS0, gS1, gC0, gC1, iT, iF, iS, iC, sT6_0, sT6_1, sF2, sF3, sF4_0, sF4_1, sS1, sC1, gM0, gM1, gM2, gM3, gM4, gM5, gM6, gM7, gM8, gM9, gM10, gM11, gM12, gM13, gM14, gM15, gM16, gM17, gM18, iM, sM5, sM6, sM11, sM12, sM13, sM14, sM16, sM18, sM2_0, sM2_1, sM3_0, sM3_1, sM4_0, sM4_1, mS_0, mS_1, mS_2, mS_3, mS_4, mS_5, mS_6, mS_7, mS_8, mS_9, mS_10, mS_11, mS_12, mS_13, mS_14, mS_15, mS_16, mS_17, mS_18, decide_true, decide_false, Bool.not_true, Bool.not_false, c97 hL, hx, ho, hm, hL.2.1, nI_1]
      exact c98_end (R := (R.1, (nI (es.length + 1), R.2.2))) (by omega)
    · simp only [putE, hx]
      refine ⟨by simp; omega, by simp, fun j x hj => ?_, hL.2.2.2⟩
      by_cases hjk : j = es.length
      · subst hjk
        simp at hj
        subst hj
        exact ⟨MgE.set_self _ _ _ _, he⟩
      · have hl : j < es.length := by
          have := (List.getElem?_eq_some_iff.mp hj).1
          simp at this
          omega
        rw [List.getElem?_append_left hl] at hj
        exact ⟨MgE.set_ne _ _ _ _ _ (hL.2.2.1 j x hj).1 hjk, (hL.2.2.1 j x hj).2⟩
def MtI (R : RgS) (es : List En) (k j : Nat) : Prop := R.2.1 = nI (es.length - 1) ∧ (∀ (i : Nat) (e : En), i < j → (es.eraseIdx k)[i]? = some e → MgE R i e) ∧ (∀ (i : Nat) (e : En), j ≤ i → es[i]? = some e → MgE R i e)
theorem c99_loop (h4 : es.length ≤ 4) (hok : ∀ (k : Nat) (e : En), es[k]? = some e → OkE e) {k : Nat} (hk : k < es.length) {y : Int32} : ∀ (d j : Nat) (R : RgS), j + 1 + d = es.length → k ≤ j → MtI R es k j → MgM R mk → ∃ R', Run 99 23 [some (.ref 61), some (.int y), some (.int (nI k)), some (.int (nI j))] [] (hp sc F s c th be qu mo li (hM (mS f mt jl R O A))) = some (none, (hp sc F s c th be qu mo li (hM (mS f mt jl (R') O A)))) ∧ MgR R' (es.eraseIdx k) mk ∧ R'.2.2.2.2 = R.2.2.2.2 := by
  intro d
  induction d with
  | zero =>
    intro j R h1 h2 hT hM
    refine ⟨R, ?_, ?_, rfl⟩
    · have h3 : ¬ nI j < nI (es.length - 1) := nI_nlt (by omega) (by omega)
      simp only [s99_23, s99_24, s99_24n, s99_25, s99_28, s99_93, Option.bind_some, Option.bind_none, Option.toList_some, Option.toList_none, List.nil_append, List.cons_append, ↓reduceIte, reduceCtorEq, cl1_i, cl1_r, cl1_n, cl1_0, cl1_J, okS_0, okS_1, okS_2, okS_3, okS_4, bB_0, bB_and, z_0, z_1, z_10, bB_t, bB_f, Bool.true_eq_false, Bool.false_eq_true, gT0, gT1, gT2, gT3, gT4, gT5, gT6, gF0, gF1, gF2, gF3, gF4, gS0, gS1, gC0, gC1, iT, iF, iS, iC, sT6_0, sT6_1, sF2, sF3, sF4_0, sF4_1, sS1, sC1, gM0, gM1, gM2, gM3, gM4, gM5, gM6, gM7, gM8, gM9, gM10, gM11, gM12, gM13, gM14, gM15, gM16, gM17, gM18, iM, sM5, sM6, sM11, sM12, sM13, sM14, sM16, sM18, sM2_0, sM2_1, sM3_0, sM3_1, sM4_0, sM4_1, mS_0, mS_1, mS_2, mS_3, mS_4, mS_5, mS_6, mS_7, mS_8, mS_9, mS_10, mS_11, mS_12, mS_13, mS_14, mS_15, mS_16, mS_17, mS_18, decide_true, decide_false, Bool.not_true, Bool.not_false, hT.1, h3]
    · have hlen : (es.eraseIdx k).length = es.length - 1 := List.length_eraseIdx_of_lt hk
      refine ⟨by omega, by rw [hlen]; exact hT.1, fun i e hi => ?_, hM⟩
      have hil := (List.getElem?_eq_some_iff.mp hi).1
      refine ⟨hT.2.1 i e (by omega) hi, ?_⟩
      rw [List.getElem?_eraseIdx] at hi
      split at hi
      · exact hok _ e hi
      · exact hok _ e hi
  | succ d ih =>
    intro j R h1 h2 hT hM
    have h3 : nI j < nI (es.length - 1) := nI_lt (by omega) (by omega)
    have hi : inB (nI j) 4 = true := inB_nI (by omega) (by decide)
    have hi1 : inB (nI (j + 1)) 4 = true := inB_nI (by omega) (by decide)
    have e1 : (nI j).toNatClampNeg = j := nI_clamp (by omega)
    have e2 : (nI (j + 1)).toNatClampNeg = j + 1 := nI_clamp (by omega)
    obtain ⟨R', r1, r2, r3⟩ := ih (j + 1) ((upd R.1.1 j (R.1.1 (j + 1)), upd R.1.2.1 j (R.1.2.1 (j + 1)), upd R.1.2.2.1 j (R.1.2.2.1 (j + 1)), vp_updL R.1.2.2.2 j (R.1.2.2.2 (j + 1))), R.2) (by omega) (by omega) (by
      refine ⟨hT.1, fun i e hij hie => ?_, fun i e hij hie => ?_⟩
      · by_cases hx : i = j
        · subst hx
          have h9 : es[i + 1]? = some e := by
            rw [List.getElem?_eraseIdx, if_neg (by omega)] at hie
            exact hie
          have := hT.2.2 (i + 1) e (by omega) h9
          simpa [MgE, upd, vp_updL] using this
        · exact MgE.set_ne _ _ _ _ _ (hT.2.1 i e (by omega) hie) hx
      · exact MgE.set_ne _ _ _ _ _ (hT.2.2 i e (by omega) hie) (by omega)) hM
    refine ⟨R', ?_, r2, r3⟩
    rw [← r1]
    rw [s99_23]
    simp only [s99_24, s99_24n, s99_25, s99_28, Option.bind_some, Option.bind_none, Option.toList_some, Option.toList_none, List.nil_append, List.cons_append, ↓reduceIte, reduceCtorEq, cl1_i, cl1_r, cl1_n, cl1_0, cl1_J, okS_0, okS_1, okS_2, okS_3, okS_4, bB_0, bB_and, z_0, z_1, z_10, bB_t, bB_f, Bool.true_eq_false, Bool.false_eq_true, gT0, gT1, gT2, gT3, gT4, gT5, gT6, gF0, gF1, gF2, gF3, gF4, gS0, gS1, gC0, gC1, iT, iF, iS, iC, sT6_0, sT6_1, sF2, sF3, sF4_0, sF4_1, sS1, sC1, gM0, gM1, gM2, gM3, gM4, gM5, gM6, gM7, gM8, gM9, gM10, gM11, gM12, gM13, gM14, gM15, gM16, gM17, gM18, iM, sM5, sM6, sM11, sM12, sM13, sM14, sM16, sM18, sM2_0, sM2_1, sM3_0, sM3_1, sM4_0, sM4_1, mS_0, mS_1, mS_2, mS_3, mS_4, mS_5, mS_6, mS_7, mS_8, mS_9, mS_10, mS_11, mS_12, mS_13, mS_14, mS_15, mS_16, mS_17, mS_18, decide_true, decide_false, Bool.not_true, Bool.not_false, hT.1, h3]
    simp only [s99_31, s99_31n, s99_32, s99_35, s99_36, s99_36n, s99_37, s99_40, s99_41, s99_42, s99_43, s99_44, s99_45, s99_45n, s99_46, s99_49, s99_50, s99_50n, s99_51, s99_54, s99_55, s99_56, s99_57, s99_58, s99_59, s99_59n, s99_60, s99_63, s99_64, s99_64n, s99_65, s99_68, s99_69, s99_70, s99_71, s99_72, s99_73, s99_73n, s99_74, s99_77, s99_78, s99_78n, s99_79, s99_82, s99_83, s99_84, s99_85, s99_86, s99_87, s99_90, Option.bind_some, Option.bind_none, Option.toList_some, Option.toList_none, List.nil_append, List.cons_append, ↓reduceIte, reduceCtorEq, cl1_i, cl1_r, cl1_n, cl1_0, cl1_J, okS_0, okS_1, okS_2, okS_3, okS_4, bB_0, bB_and, z_0, z_1, z_10, bB_t, bB_f, Bool.true_eq_false, Bool.false_eq_true, gT0, gT1, gT2, gT3, gT4, gT5, gT6, gF0, gF1, gF2, gF3, gF4, gS0, gS1, gC0, gC1, iT, iF, iS, iC, sT6_0, sT6_1, sF2, sF3, sF4_0, sF4_1, sS1, sC1, gM0, gM1, gM2, gM3, gM4, gM5, gM6, gM7, gM8, gM9, gM10, gM11, gM12, gM13, gM14, gM15, gM16, gM17, gM18, iM, sM5, sM6, sM11, sM12, sM13, sM14, sM16, sM18, sM2_0, sM2_1, sM3_0, sM3_1, sM4_0, sM4_1, mS_0, mS_1, mS_2, mS_3, mS_4, mS_5, mS_6, mS_7, mS_8, mS_9, mS_10, mS_11, mS_12, mS_13, mS_14, mS_15, mS_16, mS_17, mS_18, decide_true, decide_false, Bool.not_true, Bool.not_false, nI_1, a64 hi1, a65 hi1, a66 hi1, a67 hi1, t64 hi, t65 hi, t66 hi, t67 hi, e1, e2]
    rfl
theorem c99 (hL : MgR R es mk) {a : Nat} : ∃ R', RunM 99 [.ref 61, .int (nI a)] (hp sc F s c th be qu mo li (hM (mS f mt jl R O A))) = some (none, (hp sc F s c th be qu mo li (hM (mS f mt jl (R') O A)))) ∧ MgR R' (goneE es a) mk ∧ R'.2.2.2.2 = R.2.2.2.2 := by
  have h4 := hL.1
  cases hx : fiE es (nI a) with
  | none =>
    refine ⟨R, ?_, by simpa [goneE, hx] using hL, rfl⟩
    have ho : oI none = -1 := rfl
    have hm : (-1 : Int32) < 0 := by decide
    simp only [e99, s99_0, s99_0n, s99_1, s99_2, s99_5, s99_6, s99_7, s99_10, Option.bind_some, Option.bind_none, Option.toList_some, Option.toList_none, List.nil_append, List.cons_append, ↓reduceIte, reduceCtorEq, cl1_i, cl1_r, cl1_n, cl1_0, cl1_J, okS_0, okS_1, okS_2, okS_3, okS_4, bB_0, bB_and, z_0, z_1, z_10, bB_t, bB_f, Bool.true_eq_false, Bool.false_eq_true, gT0, gT1, gT2, gT3, gT4, gT5, gT6, gF0, gF1, gF2, gF3, gF4, gS0, gS1, gC0, gC1, iT, iF, iS, iC, sT6_0, sT6_1, sF2, sF3, sF4_0, sF4_1, sS1, sC1, gM0, gM1, gM2, gM3, gM4, gM5, gM6, gM7, gM8, gM9, gM10, gM11, gM12, gM13, gM14, gM15, gM16, gM17, gM18, iM, sM5, sM6, sM11, sM12, sM13, sM14, sM16, sM18, sM2_0, sM2_1, sM3_0, sM3_1, sM4_0, sM4_1, mS_0, mS_1, mS_2, mS_3, mS_4, mS_5, mS_6, mS_7, mS_8, mS_9, mS_10, mS_11, mS_12, mS_13, mS_14, mS_15, mS_16, mS_17, mS_18, decide_true, decide_false, Bool.not_true, Bool.not_false, c97 hL, hx, ho, hm]
  | some k =>
    have hk := (fiE_lt hx).1
    have h5 : nI es.length - 1 = nI (es.length - 1) := by
      obtain ⟨n, hn⟩ : ∃ n, es.length = n + 1 := ⟨es.length - 1, by omega⟩
      rw [hn, nI_pred]
      rfl
    obtain ⟨R', r1, r2, r3⟩ := c99_loop (sc := sc) (F := F) (s := s) (c := c) (th := th) (be := be) (qu := qu) (mo := mo) (li := li) (f := f) (mt := mt) (jl := jl) (O := O) (A := A) (mk := mk) h4 (fun i e hi => (hL.2.2.1 i e hi).2) hk (y := nI a) (es.length - (k + 1)) k (R.1, (nI (es.length - 1), R.2.2)) (by omega) (Nat.le_refl _) ⟨rfl, fun i e hi hie => by
      rw [List.getElem?_eraseIdx, if_pos (by omega)] at hie
      exact (hL.2.2.1 i e hie).1, fun i e hi hie => (hL.2.2.1 i e hie).1⟩ hL.2.2.2
    refine ⟨R', ?_, by simpa [goneE, hx] using r2, r3⟩
    have ho : oI (some k) = nI k := rfl
    rw [← r1]
    simp only [e99, s99_0, s99_0n, s99_1, s99_2, s99_5, s99_6, s99_7, s99_10, s99_11, s99_11n, s99_12, s99_12n, s99_13, s99_16, s99_17, s99_18, s99_21, s99_22, Option.bind_some, Option.bind_none, Option.toList_some, Option.toList_none, List.nil_append, List.cons_append, ↓reduceIte, reduceCtorEq, cl1_i, cl1_r, cl1_n, cl1_0, cl1_J, okS_0, okS_1, okS_2, okS_3, okS_4, bB_0, bB_and, z_0, z_1, z_10, bB_t, bB_f, Bool.true_eq_false, Bool.false_eq_true, gT0, gT1, gT2, gT3, gT4, gT5, gT6, gF0, gF1, gF2, gF3, gF4, gS0, gS1, gC0, gC1, iT, iF, iS, iC, sT6_0, sT6_1, sF2, sF3, sF4_0, sF4_1, sS1, sC1, gM0, gM1, gM2, gM3, gM4, gM5, gM6, gM7, gM8, gM9, gM10, gM11, gM12, gM13, gM14, gM15, gM16, gM17, gM18, iM, sM5, sM6, sM11, sM12, sM13, sM14, sM16, sM18, sM2_0, sM2_1, sM3_0, sM3_1, sM4_0, sM4_1, mS_0, mS_1, mS_2, mS_3, mS_4, mS_5, mS_6, mS_7, mS_8, mS_9, mS_10, mS_11, mS_12, mS_13, mS_14, mS_15, mS_16, mS_17, mS_18, decide_true, decide_false, Bool.not_true, Bool.not_false, c97 hL, hx, ho, nI_pos (show k < 2 ^ 31 by omega), hL.2.1, h5]
    rfl
end ML
/-- the top d of n bytes as a number -/
def uH (xs : List Nat) (n : Nat) : Nat → Nat
  | 0 => 0
  | d + 1 => uH xs n d * 256 + xs.getD (n - 1 - d) 0
theorem uH_vN (xs : List Nat) (n : Nat) : ∀ d, d ≤ n → uH xs n d * 2 ^ (8 * (n - d)) + vN xs (n - d) = vN xs n := by
  intro d
  induction d with
  | zero => intro _; simp [uH]
  | succ d ih =>
    intro hd
    rw [← ih (by omega)]
    obtain ⟨m, hm⟩ : ∃ m, n - d = m + 1 := ⟨n - d - 1, by omega⟩
    rw [show n - (d + 1) = m by omega, hm]
    have q1 : uH xs n (d + 1) = uH xs n d * 256 + xs.getD (n - 1 - d) 0 := rfl
    have q2 : vN xs (m + 1) = vN xs m + xs.getD m 0 * 2 ^ (8 * m) := rfl
    rw [q1, q2, show n - 1 - d = m by omega, show 8 * (m + 1) = 8 * m + 8 by omega, Nat.pow_add, Nat.add_mul]
    have : uH xs n d * 256 * 2 ^ (8 * m) = uH xs n d * (2 ^ (8 * m) * 2 ^ 8) := by
      rw [Nat.mul_assoc, Nat.mul_comm 256 _]
    omega
theorem uH_all (xs : List Nat) (n : Nat) : uH xs n n = vN xs n := by
  have := uH_vN xs n n (Nat.le_refl _)
  simp [vN] at this
  exact this
theorem uH_lt {xs : List Nat} (h : ∀ x ∈ xs, x < 256) (n : Nat) : ∀ d, uH xs n d < 2 ^ (8 * d) := by
  intro d
  induction d with
  | zero => simp [uH]
  | succ d ih =>
    have hx : xs.getD (n - 1 - d) 0 < 256 := by
      rw [List.getD_eq_getElem?_getD]
      cases hn : xs[n - 1 - d]? with
      | none => simp
      | some x => exact h x (List.mem_of_getElem? hn)
    unfold uH
    rw [show 8 * (d + 1) = 8 * d + 8 by omega, Nat.pow_add]
    omega
theorem sh8 : ((8 : Int32).toInt64 &&& 63).toBitVec.smod 64 = BitVec.ofNat 64 8 := by decide
theorem shl8_lN (u : Nat) : lN u <<< ((8 : Int32).toInt64 &&& 63) = lN (u * 2 ^ 8) := by
  apply lN_inj
  show (lN u).toBitVec <<< (((8 : Int32).toInt64 &&& 63).toBitVec.smod 64) = _
  rw [sh8, lN_bv2, lN_bv2]
  apply BitVec.eq_of_toNat_eq
  rw [BitVec.shiftLeft_eq', BitVec.toNat_shiftLeft, BitVec.toNat_ofNat, BitVec.toNat_ofNat, BitVec.toNat_ofNat, Nat.shiftLeft_eq]
  rw [show 8 % 2 ^ 64 = 8 by decide, Nat.mod_mul_mod]
theorem step8 {u x : Nat} (hx : x < 256) (hu : u * 256 + x < 2 ^ 64) : (lN u <<< ((8 : Int32).toInt64 &&& 63)) ||| (nI x).toInt64 = lN (u * 256 + x) := by
  rw [shl8_lN, nI_l (by omega), Int64.or_comm, or_lN (k := 8) (by omega) (by omega)]
  congr 1
  omega
