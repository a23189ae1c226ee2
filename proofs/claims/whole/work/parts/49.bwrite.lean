/-! ===== Both sides: write ===== -/
theorem jA_and (b : Bool) : (b && true) = b := Bool.and_true b
theorem encS_one (o : Opn) : encS [o] = encO o := by simp [encS]
theorem FitS_one {st : Lst} {o : Opn} (h1 : OkO o) (h2 : FitO st o) : FitS st [o] := ⟨⟨h1, h2⟩, trivial⟩
theorem iO_ {sc : AC} {F : FlS} {s c : OpS} {th be qu : Nat → Int32} {mo : Int32} {li : Nat → LiS} {mm : AH} {q : Nat} (hq : q < 8) : isO (hp sc F s c th be qu mo li mm) (13 + 6 * q) 1 = true := iO hq
section BW
variable {sc : AC} {d x n : Int32} {v : Int64}
theorem B60 : Bo sc 60 116 [.int d, .int x, .int n, .long v] := by
  rintro H ⟨f, s, c, th, be, qu, mt, li, jl, R, O, A, Lo, rfl, hX, hS, hU⟩
  cases mt with
  | false => exact boS hX hS hU (n60 (Lo := Lo) (fun h => by cases h)) ⟨R, O, u116 rfl⟩
  | true =>
    obtain ⟨hd, h0, hno, hA, hT⟩ := hU rfl
    cases ht : tIn Lo d with
    | false =>
      obtain ⟨R', r1⟩ := w116 (sc := sc) (F := fB f) (s := s) (c := c) (th := th) (be := be) (qu := qu) (mo := bB true) (li := li) (f := f) (jl := jl) (R := R) (O := O) (A := A) hd hX (x := x) (n := n) (v := v) ht
      rw [← refu_t hd] at r1
      exact boS hX hS hU (n60 (Lo := Lo) (fun _ => ⟨hT, ht⟩)) ⟨R', O, r1⟩
    | true =>
      obtain ⟨q, hq, rfl, hb⟩ := tIn_q ht
      have hr0 := ((hX.rc (a := 0) (by decide)).2 q).mp hb
      have e1 := s60 (sc := sc) (F := fB f) (s := s) (c := c) (be := be) (qu := qu) (li := li) (mm := hM (mS f true jl R O A)) (x := x) (n := n) (v := v) hT hq hb
      obtain ⟨y, e2⟩ := t60 (sc := sc) (F := fB f) (s := s) (c := c) (th := th) (be := be) (qu := qu) (mm := hM (mS f true jl R O A)) (x := x) (n := n) (v := v) hq (hA q hq)
      -- the reference may meet any class heap
      have mod := fun (F : FlS) (s c : OpS) (th be qu : Nat → Int32) (mo : Int32) (li : Nat → LiS) => s116 (sc := sc) (F := F) (s := s) (c := c) (th := th) (be := be) (qu := qu) (mo := mo) (li := li) (jl := jl) (R := R) (O := O) (A := A) (x := x) (n := n) (v := v) hd hX hq hb
      cases hW : badW x n with
      | true =>
        obtain ⟨R2, r3, y2, m1, m2⟩ := mod (fB f) s c th be qu 1 li
        obtain ⟨R', m3⟩ := m1 hW
        rw [if_pos hW] at e1
        exact boS hX hS hU e1 ⟨R', O, m3⟩
      | false =>
        rw [if_neg (by rw [hW]; decide)] at e1
        by_cases hV : wrV (lsO Lo q).1 x = 0
        · rw [if_pos hV] at e2
          -- the commit
          have hW2 := hW
          unfold badW at hW2
          simp only [Bool.or_eq_false_iff, Bool.not_eq_false', decide_eq_false_iff_not] at hW2
          obtain ⟨⟨g1, g2⟩, g3⟩ := hW2
          obtain ⟨a, ha1, ha2, rfl⟩ := nm_of g1
          obtain ⟨k, hk, rfl⟩ := nI_of g2
          have hk6 : k ≤ 6 := by
            rcases Nat.lt_or_ge 6 k with h9 | h9
            · exact absurd (nI_lt (a := 6) h9 hk) g3
            · exact h9
          have hst : ∃ st, Lo q = some st := by
            by_cases hq0 : q = 0
            · subst hq0; exact Option.isSome_iff_exists.mp h0
            · exact Option.isSome_iff_exists.mp (hS.1 q hr0 hq0)
          obtain ⟨st, hst⟩ := hst
          have hls := lsO_of hst
          have hLq := hA q hq
          rw [hls] at hLq hV
          let o : Opn := (1, a, 0, nbs v k)
          have hoO : OkO o := Or.inl ⟨rfl, ha1, ha2, by show (nbs v k).length ≤ 6; rw [nbs_len]; exact hk6, nbs_lt v k⟩
          have hfit : FitO st o := fun _ hf => by
            show st.1.length < 4
            have hf' : fiE st.1 (nI a) = none := hf
            unfold wrV at hV
            rw [hf'] at hV
            dsimp only at hV
            have := hLq.1
            by_cases h4 : st.1.length = 4
            · rw [if_pos h4] at hV; exact absurd hV (by decide)
            · omega
          have hF : FitS st [o] := FitS_one hoO hfit
          have henc : encS [o] = 1 :: nI a :: nI k :: byL v k := by
            rw [encS_one]
            show 1 :: nI a :: nI (nbs v k).length :: (nbs v k).map nI = _
            rw [nbs_len, nbs_map]
          have hlen : (encS [o]).length ≤ 32 := by
            rw [henc]
            simp only [List.length_cons, byL_len]
            omega
          have hno2 : (apS st [o]).2 = none := by
            have := hno q hr0
            rw [hls] at this
            exact this
          have hkid : ∀ y ∈ kids (apS st [o]).1, Rch (lsO Lo) 0 y ∨ Lo y = some nilL := fun y hy => by
            rcases kids_put (es := st.1) (e := (a, 1, (nbs v k).length, vB (nbs v k))) hy with h9 | ⟨h9, -⟩
            · exact Or.inl (hr0.step (by rw [hls]; exact h9))
            · cases h9
          obtain ⟨f1, f2, f3⟩ := finC hS h0 hno (q := q) hkid hno2
          obtain ⟨l', s', r5, r6⟩ := c17q (sc := sc) (s := s) (th := th) (be := be) (qu := qu) (mo := 1) (mm := hM (mS f true jl R O A)) (li := li) hX hq hst hLq hF hlen (j := c.1)
          obtain ⟨x1, x2⟩ := hX.cm hq hst hF
          obtain ⟨dk1, dk2⟩ := cmq_dark (f := f) (q := q) (os := [o]) (st := st) hd
          have hcls : RunM 60 [.ref 1, .int (nI q), .int (nI a), .int (nI k), .long v] (hp sc (fB f) s c th be qu (bB (true)) li (hM (mS f (true) jl R O A))) = (RunM 73 [.ref 1, .int (bB (cmq f q [o] st).1), .int 0] (hp sc (fB (cmq f q [o] st).2) s' (opf c.1 (encS [o])) th be qu 1 (upL li q l') (hM (mS f true jl R O A)))).bind fun p => Run 60 115 [some (.ref 1), some (.int (nI q)), some (.int (nI a)), some (.int (nI k)), some (.long v), none, some (.ref (13 + 6 * q)), some (.int y)] (p.1.toList ++ []) p.2 := by
            have e3 := e1.trans e2
            refine e3.trans ?_
            simp only [s60_83, s60_83n, s60_84, s60_87, Option.bind_some, Option.bind_none, Option.toList_some, Option.toList_none, List.nil_append, List.cons_append, ↓reduceIte, reduceCtorEq, cl1_i, cl1_r, cl1_n, cl1_0, cl1_J, okS_0, okS_1, okS_2, okS_3, okS_4, bB_0, bB_and, z_0, z_1, z_10, bB_t, bB_f, Bool.true_eq_false, Bool.false_eq_true, gT0, gT1, gT2, gT3, gT4, gT5, gT6, gF0, gF1, gF2, gF3, gF4, gS0, gS1, gC0, gC1, iT, iF, iS, iC, sT6_0, sT6_1, sF2, sF3, sF4_0, sF4_1, sS1, sC1, c43c]
            simp only [s60_90, s60_90n, s60_91, s60_94, s60_95, s60_96, s60_98, Option.bind_some, Option.bind_none, Option.toList_some, Option.toList_none, List.nil_append, List.cons_append, ↓reduceIte, reduceCtorEq, cl1_i, cl1_r, cl1_n, cl1_0, cl1_J, okS_0, okS_1, okS_2, okS_3, okS_4, bB_0, bB_and, z_0, z_1, z_10, bB_t, bB_f, Bool.true_eq_false, Bool.false_eq_true, gT0, gT1, gT2, gT3, gT4, gT5, gT6, gF0, gF1, gF2, gF3, gF4, gS0, gS1, gC0, gC1, iT, iF, iS, iC, sT6_0, sT6_1, sF2, sF3, sF4_0, sF4_1, sS1, sC1, c47c hk6 (show ([] : List Int32).length + (3 + k) ≤ 64 by simp only [List.length_nil]; omega), List.nil_append]
            rw [← henc]
            simp only [s60_101, s60_101n, s60_102, s60_102n, s60_104, s60_104n, s60_105, s60_108, Option.bind_some, Option.bind_none, Option.toList_some, Option.toList_none, List.nil_append, List.cons_append, ↓reduceIte, reduceCtorEq, cl1_i, cl1_r, cl1_n, cl1_0, cl1_J, okS_0, okS_1, okS_2, okS_3, okS_4, bB_0, bB_and, z_0, z_1, z_10, bB_t, bB_f, Bool.true_eq_false, Bool.false_eq_true, gT0, gT1, gT2, gT3, gT4, gT5, gT6, gF0, gF1, gF2, gF3, gF4, gS0, gS1, gC0, gC1, iT, iF, iS, iC, sT6_0, sT6_1, sF2, sF3, sF4_0, sF4_1, sS1, sC1, iO_ hq, r5]
            simp only [s60_111, s60_112, Option.bind_some, Option.bind_none, Option.toList_some, Option.toList_none, List.nil_append, List.cons_append, ↓reduceIte, reduceCtorEq, cl1_i, cl1_r, cl1_n, cl1_0, cl1_J, okS_0, okS_1, okS_2, okS_3, okS_4, bB_0, bB_and, z_0, z_1, z_10, bB_t, bB_f, Bool.true_eq_false, Bool.false_eq_true, gT0, gT1, gT2, gT3, gT4, gT5, gT6, gF0, gF1, gF2, gF3, gF4, gS0, gS1, gC0, gC1, iT, iF, iS, iC, sT6_0, sT6_1, sF2, sF3, sF4_0, sF4_1, sS1, sC1]
          -- the reference
          have hmod : ∀ (F : FlS) (s c : OpS) (th be qu : Nat → Int32) (mo : Int32) (li : Nat → LiS), ∃ R' O' A', RunM 116 [.ref 61, .int (nI q), .int (nI a), .int (nI k), .long v] (hp sc F s c th be qu mo li (hM (mS f (true) jl R O A))) = some (some (.int (if (cmq f q [o] st).1 = true then 0 else -9)), (hp sc F s c th be qu mo li (hM (mS ((cmq f q [o] st).2) ((cmq f q [o] st).1) (jA (cmq f q [o] st).1 jl) (R') (O') (A'))))) := by
            intro F s c th be qu mo li
            obtain ⟨R2, r7, y2, -, m2⟩ := mod F s c th be qu mo li
            have m3 := m2 hW
            rw [hls] at m3
            rw [if_pos hV] at m3
            obtain ⟨R3, A3, r8⟩ := c105q (sc := sc) (F := F) (s := s) (c := c) (th := th) (be := be) (qu := qu) (mo := mo) (li := li) (f := f) (mt := true) (jl := jl) (R := R2) (A := A) (j := O.1) hd hX hq hst hF hlen
            refine ⟨R3, opf O.1 (encS [o]), A3, m3.trans ?_⟩
            simp only [s116_88, s116_88n, s116_89, s116_90, s116_93, s116_93n, s116_94, Option.bind_some, Option.bind_none, Option.toList_some, Option.toList_none, List.nil_append, List.cons_append, ↓reduceIte, reduceCtorEq, cl1_i, cl1_r, cl1_n, cl1_0, cl1_J, okS_0, okS_1, okS_2, okS_3, okS_4, bB_0, bB_and, z_0, z_1, z_10, bB_t, bB_f, Bool.true_eq_false, Bool.false_eq_true, gT0, gT1, gT2, gT3, gT4, gT5, gT6, gF0, gF1, gF2, gF3, gF4, gS0, gS1, gC0, gC1, iT, iF, iS, iC, sT6_0, sT6_1, sF2, sF3, sF4_0, sF4_1, sS1, sC1, gM0, gM1, gM2, gM3, gM4, gM5, gM6, gM7, gM8, gM9, gM10, gM11, gM12, gM13, gM14, gM15, gM16, gM17, gM18, iM, sM5, sM6, sM11, sM12, sM13, sM14, sM18, sM2_0, sM2_1, sM3_0, sM3_1, sM4_0, sM4_1, mS_0, mS_1, mS_2, mS_3, mS_4, mS_5, mS_6, mS_7, mS_8, mS_9, mS_10, mS_11, mS_12, mS_13, mS_14, mS_15, mS_16, mS_17, mS_18, decide_true, decide_false, Bool.not_true, Bool.not_false, sM16r]
            simp only [s116_95, s116_98, s116_98n, s116_99, Option.bind_some, Option.bind_none, Option.toList_some, Option.toList_none, List.nil_append, List.cons_append, ↓reduceIte, reduceCtorEq, cl1_i, cl1_r, cl1_n, cl1_0, cl1_J, okS_0, okS_1, okS_2, okS_3, okS_4, bB_0, bB_and, z_0, z_1, z_10, bB_t, bB_f, Bool.true_eq_false, Bool.false_eq_true, gT0, gT1, gT2, gT3, gT4, gT5, gT6, gF0, gF1, gF2, gF3, gF4, gS0, gS1, gC0, gC1, iT, iF, iS, iC, sT6_0, sT6_1, sF2, sF3, sF4_0, sF4_1, sS1, sC1, gM0, gM1, gM2, gM3, gM4, gM5, gM6, gM7, gM8, gM9, gM10, gM11, gM12, gM13, gM14, gM15, gM16, gM17, gM18, iM, sM5, sM6, sM11, sM12, sM13, sM14, sM18, sM2_0, sM2_1, sM3_0, sM3_1, sM4_0, sM4_1, mS_0, mS_1, mS_2, mS_3, mS_4, mS_5, mS_6, mS_7, mS_8, mS_9, mS_10, mS_11, mS_12, mS_13, mS_14, mS_15, mS_16, mS_17, mS_18, decide_true, decide_false, Bool.not_true, Bool.not_false, sM16r, c107 (show ([] : List Int32).length < 32 by decide), List.nil_append]
            simp only [s116_100, s116_103, s116_103n, s116_104, Option.bind_some, Option.bind_none, Option.toList_some, Option.toList_none, List.nil_append, List.cons_append, ↓reduceIte, reduceCtorEq, cl1_i, cl1_r, cl1_n, cl1_0, cl1_J, okS_0, okS_1, okS_2, okS_3, okS_4, bB_0, bB_and, z_0, z_1, z_10, bB_t, bB_f, Bool.true_eq_false, Bool.false_eq_true, gT0, gT1, gT2, gT3, gT4, gT5, gT6, gF0, gF1, gF2, gF3, gF4, gS0, gS1, gC0, gC1, iT, iF, iS, iC, sT6_0, sT6_1, sF2, sF3, sF4_0, sF4_1, sS1, sC1, gM0, gM1, gM2, gM3, gM4, gM5, gM6, gM7, gM8, gM9, gM10, gM11, gM12, gM13, gM14, gM15, gM16, gM17, gM18, iM, sM5, sM6, sM11, sM12, sM13, sM14, sM18, sM2_0, sM2_1, sM3_0, sM3_1, sM4_0, sM4_1, mS_0, mS_1, mS_2, mS_3, mS_4, mS_5, mS_6, mS_7, mS_8, mS_9, mS_10, mS_11, mS_12, mS_13, mS_14, mS_15, mS_16, mS_17, mS_18, decide_true, decide_false, Bool.not_true, Bool.not_false, sM16r, c107 (bs := [1]) (v := nI a) (Nat.le_of_ble_eq_true rfl), List.cons_append, List.nil_append]
            simp only [s116_105, s116_108, s116_109, Option.bind_some, Option.bind_none, Option.toList_some, Option.toList_none, List.nil_append, List.cons_append, ↓reduceIte, reduceCtorEq, cl1_i, cl1_r, cl1_n, cl1_0, cl1_J, okS_0, okS_1, okS_2, okS_3, okS_4, bB_0, bB_and, z_0, z_1, z_10, bB_t, bB_f, Bool.true_eq_false, Bool.false_eq_true, gT0, gT1, gT2, gT3, gT4, gT5, gT6, gF0, gF1, gF2, gF3, gF4, gS0, gS1, gC0, gC1, iT, iF, iS, iC, sT6_0, sT6_1, sF2, sF3, sF4_0, sF4_1, sS1, sC1, gM0, gM1, gM2, gM3, gM4, gM5, gM6, gM7, gM8, gM9, gM10, gM11, gM12, gM13, gM14, gM15, gM16, gM17, gM18, iM, sM5, sM6, sM11, sM12, sM13, sM14, sM18, sM2_0, sM2_1, sM3_0, sM3_1, sM4_0, sM4_1, mS_0, mS_1, mS_2, mS_3, mS_4, mS_5, mS_6, mS_7, mS_8, mS_9, mS_10, mS_11, mS_12, mS_13, mS_14, mS_15, mS_16, mS_17, mS_18, decide_true, decide_false, Bool.not_true, Bool.not_false, sM16r, c107 (bs := [1, nI a]) (v := nI k) (Nat.le_of_ble_eq_true rfl), List.cons_append, List.nil_append]
            have hlp := w116_loop (sc := sc) (F := F) (s := s) (c := c) (th := th) (be := be) (qu := qu) (mo := mo) (li := li) (f := f) (mt := true) (jl := jl) (R := R2) (A := A) (j := O.1) (v := v) hk6 (a1 := some (.int (nI q))) (a2 := some (.int (nI a))) (a6 := some (.int (oI (act f q)))) (y7 := y2) k 0 [1, nI a, nI k] (by omega) (by simp only [List.length_cons, List.length_nil]; omega)
            rw [nI_0, ← List.range_eq_range'] at hlp
            rw [hlp, show [1, nI a, nI k] ++ (List.range k).map (byJ v) = encS [o] from henc.symm]
            simp only [s116_140, s116_140n, s116_141, s116_141n, s116_142, s116_143, Option.bind_some, Option.bind_none, Option.toList_some, Option.toList_none, List.nil_append, List.cons_append, ↓reduceIte, reduceCtorEq, cl1_i, cl1_r, cl1_n, cl1_0, cl1_J, okS_0, okS_1, okS_2, okS_3, okS_4, bB_0, bB_and, z_0, z_1, z_10, bB_t, bB_f, Bool.true_eq_false, Bool.false_eq_true, gT0, gT1, gT2, gT3, gT4, gT5, gT6, gF0, gF1, gF2, gF3, gF4, gS0, gS1, gC0, gC1, iT, iF, iS, iC, sT6_0, sT6_1, sF2, sF3, sF4_0, sF4_1, sS1, sC1, gM0, gM1, gM2, gM3, gM4, gM5, gM6, gM7, gM8, gM9, gM10, gM11, gM12, gM13, gM14, gM15, gM16, gM17, gM18, iM, sM5, sM6, sM11, sM12, sM13, sM14, sM18, sM2_0, sM2_1, sM3_0, sM3_1, sM4_0, sM4_1, mS_0, mS_1, mS_2, mS_3, mS_4, mS_5, mS_6, mS_7, mS_8, mS_9, mS_10, mS_11, mS_12, mS_13, mS_14, mS_15, mS_16, mS_17, mS_18, decide_true, decide_false, Bool.not_true, Bool.not_false, sM16r, r8]
            simp only [s116_146, s116_147, s116_150, Option.bind_some, Option.bind_none, Option.toList_some, Option.toList_none, List.nil_append, List.cons_append, ↓reduceIte, reduceCtorEq, cl1_i, cl1_r, cl1_n, cl1_0, cl1_J, okS_0, okS_1, okS_2, okS_3, okS_4, bB_0, bB_and, z_0, z_1, z_10, bB_t, bB_f, Bool.true_eq_false, Bool.false_eq_true, gT0, gT1, gT2, gT3, gT4, gT5, gT6, gF0, gF1, gF2, gF3, gF4, gS0, gS1, gC0, gC1, iT, iF, iS, iC, sT6_0, sT6_1, sF2, sF3, sF4_0, sF4_1, sS1, sC1, gM0, gM1, gM2, gM3, gM4, gM5, gM6, gM7, gM8, gM9, gM10, gM11, gM12, gM13, gM14, gM15, gM16, gM17, gM18, iM, sM5, sM6, sM11, sM12, sM13, sM14, sM18, sM2_0, sM2_1, sM3_0, sM3_1, sM4_0, sM4_1, mS_0, mS_1, mS_2, mS_3, mS_4, mS_5, mS_6, mS_7, mS_8, mS_9, mS_10, mS_11, mS_12, mS_13, mS_14, mS_15, mS_16, mS_17, mS_18, decide_true, decide_false, Bool.not_true, Bool.not_false, sM16r, c111, Bool.and_true]
          cases hr : (cmq f q [o] st).1 with
          | true =>
            have hX' := x1 hr
            have hA' : LiA (upO Lo q (some (apS st [o]))) (upL li q l') := hA.up r6
            obtain ⟨th', qu', r9, r10⟩ := c73t (sc := sc) (F := fB (cmq f q [o] st).2) (s := s') (c := opf c.1 (encS [o])) (th := th) (be := be) (qu := qu) (mo := 1) (mm := hM (mS f true jl R O A)) (v := 0) ⟨_, hX'⟩ hA'
            obtain ⟨R', O', A', m9⟩ := hmod (fB (cmq f q [o] st).2) s' (opf c.1 (encS [o])) th' be qu' 1 (upL li q l')
            rw [hr] at m9
            rw [hr, show bB true = 1 from rfl, r9] at hcls
            refine ⟨some (.int 0), _, (hp sc (fB ((cmq f q [o] st).2)) (s') (opf c.1 (encS [o])) (th') be (qu') (bB (true)) (upL li q l') (hM (mS ((cmq f q [o] st).2) (true) (jA true jl) (R') (O') (A')))), hcls.trans ?_, m9, mkI hX' f1 (fun _ => ⟨dk2 hr, f2, f3, hA', r10⟩)⟩
            simp only [s60_115, Option.bind_some, Option.bind_none, Option.toList_some, Option.toList_none, List.nil_append, List.cons_append, ↓reduceIte, reduceCtorEq, cl1_i, cl1_r, cl1_n, cl1_0, cl1_J, okS_0, okS_1, okS_2, okS_3, okS_4, bB_0, bB_and, z_0, z_1, z_10, bB_t, bB_f, Bool.true_eq_false, Bool.false_eq_true, gT0, gT1, gT2, gT3, gT4, gT5, gT6, gF0, gF1, gF2, gF3, gF4, gS0, gS1, gC0, gC1, iT, iF, iS, iC, sT6_0, sT6_1, sF2, sF3, sF4_0, sF4_1, sS1, sC1]
          | false =>
            obtain ⟨R', O', A', m9⟩ := hmod (fB (cmq f q [o] st).2) s' (opf c.1 (encS [o])) th be qu 0 (upL li q l')
            rw [hr] at m9
            rw [hr, show bB false = 0 from rfl, c73f] at hcls
            refine ⟨some (.int (-9)), _, (hp sc (fB ((cmq f q [o] st).2)) (s') (opf c.1 (encS [o])) th be qu (bB (false)) (upL li q l') (hM (mS ((cmq f q [o] st).2) (false) (jA false jl) (R') (O') (A')))), hcls.trans ?_, m9, mkI (x2 hr) hS (fun h => by cases h)⟩
            simp only [s60_115, Option.bind_some, Option.bind_none, Option.toList_some, Option.toList_none, List.nil_append, List.cons_append, ↓reduceIte, reduceCtorEq, cl1_i, cl1_r, cl1_n, cl1_0, cl1_J, okS_0, okS_1, okS_2, okS_3, okS_4, bB_0, bB_and, z_0, z_1, z_10, bB_t, bB_f, Bool.true_eq_false, Bool.false_eq_true, gT0, gT1, gT2, gT3, gT4, gT5, gT6, gF0, gF1, gF2, gF3, gF4, gS0, gS1, gC0, gC1, iT, iF, iS, iC, sT6_0, sT6_1, sF2, sF3, sF4_0, sF4_1, sS1, sC1]
        · rw [if_neg hV] at e2
          obtain ⟨R2, r3, y2, m1, m2⟩ := mod (fB f) s c th be qu 1 li
          have m3 := m2 hW
          rw [if_neg hV] at m3
          exact boS hX hS hU (e1.trans e2) ⟨R2, O, m3⟩
end BW
