/-! ===== Listing: writes ===== -/
def putE (es : List En) (e : En) : List En := match fiE es (nI e.1) with
  | some k => es.set k e
  | none => es ++ [e]
theorem LiE.set_self (L : LiS) (k : Nat) (e : En) (r : Int32 × Int32 × Int32) : LiE (upd L.1 k (nI e.1), upd L.2.1 k (enPr e), upd L.2.2.1 k (enLn e), vp_updL L.2.2.2.1 k e.2.2.2, r) k e := by
  simp [LiE, upd, vp_updL]
theorem LiE.set_ne {L : LiS} {k j : Nat} {x : En} (a b c : Int32) (d : Int64) (r : Int32 × Int32 × Int32) (h : LiE L j x) (hj : j ≠ k) : LiE (upd L.1 k a, upd L.2.1 k b, upd L.2.2.1 k c, vp_updL L.2.2.2.1 k d, r) j x := by
  simpa [LiE, upd, vp_updL, hj] using h
section LISTW
variable {sc : AC} {F : FlS} {s c : OpS} {th be qu : Nat → Int32} {mo : Int32} {li : Nat → LiS} {mm : AH} {q : Nat} {es : List En} {mk : Option (Nat × Nat)}
theorem c41g (hq : q < 8) {n : Nat} (h4 : n ≤ 4) (hc : (li q).2.2.2.2.1 = nI n) {k : Int32} : RunM 41 [.ref (14 + 6 * q), .int k] (hp sc F s c th be qu mo li mm) = some (some (.int (bB (inB k n))), hp sc F s c th be qu mo li mm) := by
  have hl : (nI n).toInt = n := nI_toInt (by omega)
  simp only [e41, s41_0, s41_1, s41_4, s41_5, s41_5n, s41_6, s41_9, s41_12, s41_13, s41_14, s41_17, s41_18, s41_21, s41_22, Option.bind_some, Option.bind_none, Option.toList_some, Option.toList_none, List.nil_append, List.cons_append, ↓reduceIte, reduceCtorEq, cl1_i, cl1_r, cl1_n, cl1_0, cl1_J, okS_0, okS_1, okS_2, okS_3, okS_4, bB_0, bB_and, z_0, z_1, z_10, bB_t, bB_f, Bool.true_eq_false, Bool.false_eq_true, gT0, gT1, gT2, gT3, gT4, gT5, gT6, gF0, gF1, gF2, gF3, gF4, gS0, gS1, gC0, gC1, iT, iF, iS, iC, sT6_0, sT6_1, sF2, sF3, sF4_0, sF4_1, sS1, sC1, gO0 hq, gO1 hq, gO2 hq, gO3 hq, gL0 hq, gL1 hq, gL2 hq, gL3 hq, gL4 hq, gL5 hq, gL6 hq, iO hq, iL hq, sL4 hq, sL5 hq, sL6 hq, hc]
  by_cases h1 : k < 0
  · rw [if_pos h1, inB_f1 h1]; rfl
  · by_cases h2 : k < nI n
    · have h3 : k < 4 := by
        rw [Int32.lt_iff_toInt_lt] at h2 ⊢
        have : (4 : Int32).toInt = 4 := by decide
        omega
      rw [if_neg h1, if_pos h2, if_pos h3, inB_t hl h1 h2]; rfl
    · rw [if_neg h1, if_neg h2, inB_f2 hl h2]; rfl
theorem c39_end (hq : q < 8) {n k : Nat} (hn : n ≤ 4) (hk : k < n) (hc : (li q).2.2.2.2.1 = nI n) {a b d z : Int32} {x : Int64} : Run 39 37 [some (.ref (14 + 6 * q)), some (.int a), some (.int b), some (.int d), some (.long x), none, some (.int (nI k))] [] (hp sc F s c th be qu mo li mm) = some (none, hp sc F s c th be qu mo (upL li q (upd (li q).1 k a, upd (li q).2.1 k b, upd (li q).2.2.1 k d, vp_updL (li q).2.2.2.1 k x, (li q).2.2.2.2)) mm) := by
  have hi : inB (nI k) 4 = true := inB_nI (by omega) (by decide)
  simp only [s39_37, s39_37n, s39_38, s39_40, s39_43, s39_46, s39_46n, s39_47, s39_50, s39_52, s39_53, s39_54, s39_54n, s39_55, s39_58, s39_60, s39_61, s39_62, s39_62n, s39_63, s39_66, s39_68, s39_69, s39_70, s39_70n, s39_71, s39_74, s39_76, s39_78, s39_79, Option.bind_some, Option.bind_none, Option.toList_some, Option.toList_none, List.nil_append, List.cons_append, ↓reduceIte, reduceCtorEq, cl1_i, cl1_r, cl1_n, cl1_0, cl1_J, okS_0, okS_1, okS_2, okS_3, okS_4, bB_0, bB_and, z_0, z_1, z_10, bB_t, bB_f, Bool.true_eq_false, Bool.false_eq_true, gT0, gT1, gT2, gT3, gT4, gT5, gT6, gF0, gF1, gF2, gF3, gF4, gS0, gS1, gC0, gC1, iT, iF, iS, iC, sT6_0, sT6_1, sF2, sF3, sF4_0, sF4_1, sS1, sC1, gO0 hq, gO1 hq, gO2 hq, gO3 hq, gL0 hq, gL1 hq, gL2 hq, gL3 hq, gL4 hq, gL5 hq, gL6 hq, iO hq, iL hq, sL4 hq, sL5 hq, sL6 hq, c41g hq hn hc, inB_nI hk (show n < 2 ^ 31 by omega), tN hq hi, tP hq hi, tG hq hi, tJ hq hi, upL_self, upL_up, nI_clamp (show k < 2 ^ 31 by omega)]
theorem c39 (hq : q < 8) (hL : LiR (li q) es mk) {e : En} (he : OkE e) (hf : fiE es (nI e.1) = none → es.length < 4) : ∃ l', RunM 39 [.ref (14 + 6 * q), .int (nI e.1), .int (enPr e), .int (enLn e), .long e.2.2.2] (hp sc F s c th be qu mo li mm) = some (none, hp sc F s c th be qu mo (upL li q l') mm) ∧ LiR l' (putE es e) mk := by
  have h4 := hL.1
  cases hx : fiE es (nI e.1) with
  | some k =>
    have hk := (fiE_lt hx).1
    refine ⟨(upd (li q).1 k (nI e.1), upd (li q).2.1 k (enPr e), upd (li q).2.2.1 k (enLn e), vp_updL (li q).2.2.2.1 k e.2.2.2, (li q).2.2.2.2), ?_, ?_⟩
    · have ho : oI (some k) = nI k := rfl
      simp only [e39, s39_0, s39_0n, s39_1, s39_2, s39_5, s39_7, s39_9, s39_10, Option.bind_some, Option.bind_none, Option.toList_some, Option.toList_none, List.nil_append, List.cons_append, ↓reduceIte, reduceCtorEq, cl1_i, cl1_r, cl1_n, cl1_0, cl1_J, okS_0, okS_1, okS_2, okS_3, okS_4, bB_0, bB_and, z_0, z_1, z_10, bB_t, bB_f, Bool.true_eq_false, Bool.false_eq_true, gT0, gT1, gT2, gT3, gT4, gT5, gT6, gF0, gF1, gF2, gF3, gF4, gS0, gS1, gC0, gC1, iT, iF, iS, iC, sT6_0, sT6_1, sF2, sF3, sF4_0, sF4_1, sS1, sC1, gO0 hq, gO1 hq, gO2 hq, gO3 hq, gL0 hq, gL1 hq, gL2 hq, gL3 hq, gL4 hq, gL5 hq, gL6 hq, iO hq, iL hq, sL4 hq, sL5 hq, sL6 hq, c28 hq hL, hx, ho, m1_nI' (show k < 2 ^ 31 by omega)]
      exact c39_end hq h4 hk hL.2.1 (z := 0)
    · simp only [putE, hx]
      refine ⟨by simpa using h4, by simpa using hL.2.1, fun j x hj => ?_, hL.2.2.2⟩
      by_cases hjk : j = k
      · subst hjk
        rw [List.getElem?_set_self hk] at hj
        cases hj
        exact ⟨LiE.set_self _ _ _ _, he⟩
      · rw [List.getElem?_set_ne (Ne.symm hjk)] at hj
        exact ⟨LiE.set_ne _ _ _ _ _ (hL.2.2.1 j x hj).1 hjk, (hL.2.2.1 j x hj).2⟩
  | none =>
    have hn := hf hx
    refine ⟨(upd (li q).1 es.length (nI e.1), upd (li q).2.1 es.length (enPr e), upd (li q).2.2.1 es.length (enLn e), vp_updL (li q).2.2.2.1 es.length e.2.2.2, nI (es.length + 1), (li q).2.2.2.2.2), ?_, ?_⟩
    · have ho : oI none = -1 := rfl
      have hd : decide (es.length = 4) = false := decide_eq_false (by omega)
      simp only [e39, s39_0, s39_0n, s39_1, s39_2, s39_5, s39_7, s39_9, s39_10, s39_13, s39_13n, s39_14, s39_17, s39_20, s39_21, s39_21n, s39_22, s39_25, s39_27, s39_27n, s39_28, s39_29, s39_32, s39_33, s39_34, Option.bind_some, Option.bind_none, Option.toList_some, Option.toList_none, List.nil_append, List.cons_append, ↓reduceIte, reduceCtorEq, cl1_i, cl1_r, cl1_n, cl1_0, cl1_J, okS_0, okS_1, okS_2, okS_3, okS_4, bB_0, bB_and, z_0, z_1, z_10, bB_t, bB_f, Bool.true_eq_false, Bool.false_eq_true, gT0, gT1, gT2, gT3, gT4, gT5, gT6, gF0, gF1, gF2, gF3, gF4, gS0, gS1, gC0, gC1, iT, iF, iS, iC, sT6_0, sT6_1, sF2, sF3, sF4_0, sF4_1, sS1, sC1, gO0 hq, gO1 hq, gO2 hq, gO3 hq, gL0 hq, gL1 hq, gL2 hq, gL3 hq, gL4 hq, gL5 hq, gL6 hq, iO hq, iL hq, sL4 hq, sL5 hq, sL6 hq, c28 hq hL, hx, ho, c26 hq hL, hd, hL.2.1, nI_1]
      have := c39_end (sc := sc) (F := F) (s := s) (c := c) (th := th) (be := be) (qu := qu) (mo := mo) (mm := mm) (li := upL li q ((li q).1, (li q).2.1, (li q).2.2.1, (li q).2.2.2.1, nI (es.length + 1), (li q).2.2.2.2.2)) hq (n := es.length + 1) (k := es.length) (by omega) (by omega) (by rw [upL_self]) (a := nI e.1) (b := enPr e) (d := enLn e) (x := e.2.2.2) (z := 0)
      rw [this, upL_self, upL_up]
    · simp only [putE, hx]
      refine ⟨by simp; omega, by simp, fun j x hj => ?_, hL.2.2.2⟩
      by_cases hjk : j = es.length
      · subst hjk
        simp at hj
        subst hj
        exact ⟨LiE.set_self _ _ _ _, he⟩
      · have hl : j < es.length := by
          have := (List.getElem?_eq_some_iff.mp hj).1
          simp at this
          omega
        rw [List.getElem?_append_left hl] at hj
        exact ⟨LiE.set_ne _ _ _ _ _ (hL.2.2.1 j x hj).1 hjk, (hL.2.2.1 j x hj).2⟩
/-- while the others close up: places below j hold the shorter list, the others the old one -/
def TkI (L : LiS) (es : List En) (k j : Nat) : Prop := L.2.2.2.2.1 = nI es.length ∧ (∀ (i : Nat) (e : En), i < j → (es.eraseIdx k)[i]? = some e → LiE L i e) ∧ (∀ (i : Nat) (e : En), j ≤ i → es[i]? = some e → LiE L i e)
theorem c40_loop (hq : q < 8) (h4 : es.length ≤ 4) (hok : ∀ (k : Nat) (e : En), es[k]? = some e → OkE e) {k : Nat} (hk : k < es.length) : ∀ (d j : Nat) (l : LiS), j + 1 + d = es.length → k ≤ j → TkI l es k j → LiM l mk → ∃ l', Run 40 11 [some (.ref (14 + 6 * q)), some (.int (nI k)), some (.int (nI j))] [] (hp sc F s c th be qu mo (upL li q l) mm) = some (none, hp sc F s c th be qu mo (upL li q l') mm) ∧ LiR l' (es.eraseIdx k) mk := by
  intro d
  induction d with
  | zero =>
    intro j l h1 h2 hT hM
    refine ⟨(l.1, l.2.1, l.2.2.1, l.2.2.2.1, nI (es.length - 1), l.2.2.2.2.2), ?_, ?_⟩
    · have h3 : ¬ nI (j + 1) < nI es.length := nI_nlt (by omega) (by omega)
      have h5 : nI es.length - 1 = nI (es.length - 1) := by
        obtain ⟨n, hn⟩ : ∃ n, es.length = n + 1 := ⟨es.length - 1, by omega⟩
        rw [hn, nI_pred]
        rfl
      simp only [s40_11, s40_12, s40_13, s40_14, s40_14n, s40_15, s40_18, s40_90, s40_90n, s40_91, s40_92, s40_95, s40_96, s40_97, s40_100, Option.bind_some, Option.bind_none, Option.toList_some, Option.toList_none, List.nil_append, List.cons_append, ↓reduceIte, reduceCtorEq, cl1_i, cl1_r, cl1_n, cl1_0, cl1_J, okS_0, okS_1, okS_2, okS_3, okS_4, bB_0, bB_and, z_0, z_1, z_10, bB_t, bB_f, Bool.true_eq_false, Bool.false_eq_true, gT0, gT1, gT2, gT3, gT4, gT5, gT6, gF0, gF1, gF2, gF3, gF4, gS0, gS1, gC0, gC1, iT, iF, iS, iC, sT6_0, sT6_1, sF2, sF3, sF4_0, sF4_1, sS1, sC1, gO0 hq, gO1 hq, gO2 hq, gO3 hq, gL0 hq, gL1 hq, gL2 hq, gL3 hq, gL4 hq, gL5 hq, gL6 hq, iO hq, iL hq, sL4 hq, sL5 hq, sL6 hq, upL_self, upL_up, hT.1, nI_1, h3, h5]
    · have hlen : (es.eraseIdx k).length = es.length - 1 := List.length_eraseIdx_of_lt hk
      refine ⟨by omega, by rw [hlen], fun i e hi => ?_, hM⟩
      have hil := (List.getElem?_eq_some_iff.mp hi).1
      refine ⟨hT.2.1 i e (by omega) hi, ?_⟩
      rw [List.getElem?_eraseIdx] at hi
      split at hi
      · exact hok _ e hi
      · exact hok _ e hi
  | succ d ih =>
    intro j l h1 h2 hT hM
    have h3 : nI (j + 1) < nI es.length := nI_lt (by omega) (by omega)
    have h5 : nI (j + 1) < 4 := nI_lit (k := 4) (by omega) (by decide)
    have hi : inB (nI j) 4 = true := inB_nI (by omega) (by decide)
    have hi1 : inB (nI (j + 1)) 4 = true := inB_nI (by omega) (by decide)
    have e1 : (nI j).toNatClampNeg = j := nI_clamp (by omega)
    have e2 : (nI (j + 1)).toNatClampNeg = j + 1 := nI_clamp (by omega)
    obtain ⟨l', r1, r2⟩ := ih (j + 1) (upd l.1 j (l.1 (j + 1)), upd l.2.1 j (l.2.1 (j + 1)), upd l.2.2.1 j (l.2.2.1 (j + 1)), vp_updL l.2.2.2.1 j (l.2.2.2.1 (j + 1)), l.2.2.2.2) (by omega) (by omega) (by
      refine ⟨hT.1, fun i e hij hie => ?_, fun i e hij hie => ?_⟩
      · by_cases hx : i = j
        · subst hx
          have h9 : es[i + 1]? = some e := by
            rw [List.getElem?_eraseIdx, if_neg (by omega)] at hie
            exact hie
          have := hT.2.2 (i + 1) e (by omega) h9
          simpa [LiE, upd, vp_updL] using this
        · exact LiE.set_ne _ _ _ _ _ (hT.2.1 i e (by omega) hie) hx
      · exact LiE.set_ne _ _ _ _ _ (hT.2.2 i e (by omega) hie) (by omega)) hM
    refine ⟨l', ?_, r2⟩
    rw [← r1]
    simp only [s40_11, s40_12, s40_13, s40_14, s40_14n, s40_15, s40_18, s40_21, s40_22, s40_23, s40_24, s40_25, s40_28, s40_28n, s40_29, s40_32, s40_33, s40_33n, s40_34, s40_37, s40_38, s40_39, s40_40, s40_41, s40_42, s40_42n, s40_43, s40_46, s40_47, s40_47n, s40_48, s40_51, s40_52, s40_53, s40_54, s40_55, s40_56, s40_56n, s40_57, s40_60, s40_61, s40_61n, s40_62, s40_65, s40_66, s40_67, s40_68, s40_69, s40_70, s40_70n, s40_71, s40_74, s40_75, s40_75n, s40_76, s40_79, s40_80, s40_81, s40_82, s40_83, s40_84, s40_87, Option.bind_some, Option.bind_none, Option.toList_some, Option.toList_none, List.nil_append, List.cons_append, ↓reduceIte, reduceCtorEq, cl1_i, cl1_r, cl1_n, cl1_0, cl1_J, okS_0, okS_1, okS_2, okS_3, okS_4, bB_0, bB_and, z_0, z_1, z_10, bB_t, bB_f, Bool.true_eq_false, Bool.false_eq_true, gT0, gT1, gT2, gT3, gT4, gT5, gT6, gF0, gF1, gF2, gF3, gF4, gS0, gS1, gC0, gC1, iT, iF, iS, iC, sT6_0, sT6_1, sF2, sF3, sF4_0, sF4_1, sS1, sC1, gO0 hq, gO1 hq, gO2 hq, gO3 hq, gL0 hq, gL1 hq, gL2 hq, gL3 hq, gL4 hq, gL5 hq, gL6 hq, iO hq, iL hq, sL4 hq, sL5 hq, sL6 hq, upL_self, upL_up, hT.1, nI_1, h3, h5, aN hq hi1, aP hq hi1, aG hq hi1, aJ hq hi1, tN hq hi, tP hq hi, tG hq hi, tJ hq hi, e1, e2]
end LISTW
