/-! ===== Both sides: rename ===== -/
theorem finA {Lo : LO} (hS : Sh Lo) (hno : ∀ x, Rch (lsO Lo) 0 x → (lsO Lo x).2 = none) {r : Nat} {st : Lst} (hk : ∀ y ∈ kids st.1, Rch (lsO Lo) 0 y) : Sh (upO Lo r (some st)) ∧ (∀ x, Rch (lsO (upO Lo r (some st))) 0 x → Rch (lsO Lo) 0 x) ∧ ∀ x, (Lo x).isSome = true → (upO Lo r (some st) x).isSome = true := by
  have hR : ∀ x, Rch (lsO (upO Lo r (some st))) 0 x → Rch (lsO Lo) 0 x := fun x hx => Rch.in (P := Rch (lsO Lo) 0) Rch.rf (fun x hx y hy => by
    by_cases hxr : x = r
    · subst hxr
      rw [lsO_self] at hy
      exact hk y hy
    · rw [lsO_ne _ _ hxr] at hy
      exact hx.step hy) hx
  have hI : ∀ x, (Lo x).isSome = true → (upO Lo r (some st) x).isSome = true := fun x hx => by
    by_cases hxr : x = r
    · subst hxr; rw [upO_self]; rfl
    · rw [upO_ne _ _ hxr]; exact hx
  have hm : ∀ x, Rch (lsO (upO Lo r (some st))) 0 x → (lsO (upO Lo r (some st)) x).2 ≠ none → x = r := fun x hx h => Classical.byContradiction fun hxr => by
    rw [lsO_ne _ _ hxr] at h
    exact h (hno x (hR x hx))
  exact ⟨⟨fun x hx hn => hI x (hS.1 x (hR x hx) hn), fun x y hx hy h1 h2 => by rw [hm x hx h1, hm y hy h2]⟩, hR, hI⟩
section BRN
variable {sc : AC} {d x e y : Int32}
theorem B62 : Bo sc 62 119 [.int d, .int x, .int e, .int y] := by
  rintro H ⟨f, s, c, th, be, qu, mt, li, jl, R, O, A, Lo, rfl, hX, hS, hU⟩
  cases mt with
  | false => exact boS hX hS hU (n62 (Lo := Lo) (fun h => by cases h)) ⟨R, O, u119 rfl⟩
  | true =>
    obtain ⟨hd, h0, hno, hA, hT⟩ := hU rfl
    by_cases hN : tIn Lo d = false ∨ tIn Lo e = false
    · obtain ⟨R', r1⟩ := w119 (sc := sc) (F := fB f) (s := s) (c := c) (th := th) (be := be) (qu := qu) (mo := bB true) (li := li) (f := f) (jl := jl) (R := R) (O := O) (A := A) hd hX (x := x) (y := y) hN
      rw [← refu_t hd] at r1
      exact boS hX hS hU (n62 (Lo := Lo) (fun _ => ⟨hT, hN⟩)) ⟨R', O, r1⟩
    · have htd : tIn Lo d = true := by
        cases h : tIn Lo d with
        | true => rfl
        | false => exact absurd (Or.inl h) hN
      have hte : tIn Lo e = true := by
        cases h : tIn Lo e with
        | true => rfl
        | false => exact absurd (Or.inr h) hN
      obtain ⟨q, hq, rfl, hb⟩ := tIn_q htd
      obtain ⟨r, hr, rfl, hrb⟩ := tIn_q hte
      have hr0 := ((hX.rc (a := 0) (by decide)).2 q).mp hb
      have hr1 := ((hX.rc (a := 0) (by decide)).2 r).mp hrb
      by_cases hbad : fiE (lsO Lo q).1 x = none ∨ nmOk y = false
      · obtain ⟨R', m1⟩ := s119A (sc := sc) (F := fB f) (s := s) (c := c) (th := th) (be := be) (qu := qu) (mo := 1) (li := li) (f := f) (jl := jl) (R := R) (O := O) (A := A) hd hX hq hb hr hrb hbad
        exact boS hX hS hU (s62A hT hA hq hb hr hrb hbad) ⟨R', O, m1⟩
      · have hn : nmOk y = true := by
          cases h : nmOk y with
          | true => rfl
          | false => exact absurd (Or.inr h) hbad
        obtain ⟨k, hf⟩ := Option.ne_none_iff_exists'.mp (fun h => hbad (Or.inl h))
        obtain ⟨en, he, rfl⟩ := fiE_get hf
        obtain ⟨b, hb1, hb2, rfl⟩ := nm_of hn
        have hst : ∃ st, Lo q = some st := by
          by_cases hq0 : q = 0
          · subst hq0; exact Option.isSome_iff_exists.mp h0
          · exact Option.isSome_iff_exists.mp (hS.1 q hr0 hq0)
        obtain ⟨st, hst⟩ := hst
        have hls := lsO_of hst
        have hokL := hX.okL hq
        have heO : OkE en ∧ OkV en := hokL.2.1 en (List.mem_of_getElem? he)
        have hkq : ∀ z ∈ kids (lsO Lo q).1, Rch (lsO Lo) 0 z := fun z hz => hr0.step hz
        have henk : en.2.1 = 2 → Rch (lsO Lo) 0 en.2.2.1 := fun h2 => hkq _ (kids_mem.mpr ⟨en, List.mem_of_getElem? he, h2, rfl⟩)
        have hl9 := encE_len (x := nI b) heO.1
        by_cases hxy : q = r ∧ nI en.1 = nI b
        · obtain ⟨rfl, hxy2⟩ := hxy
          rw [← hxy2] at hn ⊢
          obtain ⟨R', m1⟩ := s119B (sc := sc) (F := fB f) (s := s) (c := c) (th := th) (be := be) (qu := qu) (mo := 1) (li := li) (f := f) (jl := jl) (R := R) (O := O) (A := A) hd hX hq hb hf he hn
          exact boS hX hS hU (s62B hT hA hq hb hf hn) ⟨R', O, m1⟩
        · obtain ⟨be', qu', e1⟩ := s62C (sc := sc) (F := fB f) (s := s) (c := c) (be := be) (qu := qu) (mm := hM (mS f true jl R O A)) hX hT hA hq hb hr hrb hf he hn hxy
          have mod := fun (F : FlS) (s c : OpS) (th be qu : Nat → Int32) (mo : Int32) (li : Nat → LiS) => s119C (sc := sc) (F := F) (s := s) (c := c) (th := th) (be := be) (qu := qu) (mo := mo) (li := li) (f := f) (jl := jl) (R := R) (O := O) (A := A) hd hX hq hb hr hrb hf he hn hxy
          by_cases hV : mvV Lo q r en (nI b) = 0
          · rw [if_pos hV] at e1
            by_cases hqr : q = r
            · -- within one folder
              subst hqr
              have hF : FitS st (wiO en b) := FitW (by rw [← hls]; exact hokL) (by rw [← hls]; exact hf) heO hb1 hb2
              have he' : st.1[k]? = some en := by rw [← hls]; exact he
              obtain ⟨l', s', r5, r6⟩ := c86 (sc := sc) (f := f) (s := s) (c := c) (th := th) (be := be') (qu := qu') (mo := 1) (mm := hM (mS f true jl R O A)) hX hA hq hst he' hF hb1 hb2
              have henc := encW heO.1 hb1 hb2
              have hlen : (encS (wiO en b)).length ≤ 32 := by
                rw [henc, List.length_append]
                simp only [List.length_cons, List.length_nil]
                omega
              obtain ⟨x1, x2⟩ := hX.cm hq hst hF
              obtain ⟨dk1, dk2⟩ := cmq_dark (f := f) (q := q) (os := wiO en b) (st := st) hd
              have hap : apS st (wiO en b) = apO (goneE st.1 en.1, st.2) (enOp (b, en.2)) := rfl
              obtain ⟨p1, p2⟩ := ap_enOp (goneE st.1 en.1, st.2) (b, en.2)
              have hno2 : (apS st (wiO en b)).2 = none := by
                rw [hap, p1]
                have := hno q hr0
                rw [hls] at this
                exact this
              have hkid : ∀ z ∈ kids (apS st (wiO en b)).1, Rch (lsO Lo) 0 z ∨ Lo z = some nilL := fun z hz => by
                rw [hap] at hz
                rcases p2 z hz with h9 | ⟨h8, h9⟩
                · exact Or.inl (hkq z (by rw [hls]; exact kids_gone (es := st.1) (a := en.1) h9))
                · rw [h9]; exact Or.inl (henk h8)
              obtain ⟨f1, f2, f3⟩ := finC hS h0 hno (q := q) hkid hno2
              have hcls : RunM 62 [.ref 1, .int (nI q), .int (nI en.1), .int (nI q), .int (nI b)] (hp sc (fB f) s c th be qu (bB (true)) li (hM (mS f (true) jl R O A))) = (RunM 73 [.ref 1, .int (bB (cmq f q (wiO en b) st).1), .int 0] (hp sc (fB (cmq f q (wiO en b) st).2) s' (opf c.1 (encS (wiO en b))) th be' qu' 1 (upL li q l') (hM (mS f true jl R O A)))).bind fun p => Run 62 130 [some (.ref 1), some (.int (nI q)), some (.int (nI en.1)), some (.int (nI q)), some (.int (nI b)), some (.ref (13 + 6 * q)), some (.ref (13 + 6 * q)), some (.int (nI k)), some (.int 0), some (.int (bB (cmq f q (wiO en b) st).1))] (p.1.toList ++ []) p.2 := by
                refine e1.trans ?_
                simp only [s62_91, s62_92, s62_93, s62_96, s62_96n, s62_97, s62_97n, s62_99, s62_101, Option.bind_some, Option.bind_none, Option.toList_some, Option.toList_none, List.nil_append, List.cons_append, ↓reduceIte, reduceCtorEq, cl1_i, cl1_r, cl1_n, cl1_0, cl1_J, okS_0, okS_1, okS_2, okS_3, okS_4, bB_0, bB_and, z_0, z_1, z_10, bB_t, bB_f, Bool.true_eq_false, Bool.false_eq_true, gT0, gT1, gT2, gT3, gT4, gT5, gT6, gF0, gF1, gF2, gF3, gF4, gS0, gS1, gC0, gC1, iT, iF, iS, iC, sT6_0, sT6_1, sF2, sF3, sF4_0, sF4_1, sS1, sC1]
                simp only [s62_103, Option.bind_some, Option.bind_none, Option.toList_some, Option.toList_none, List.nil_append, List.cons_append, ↓reduceIte, reduceCtorEq, cl1_i, cl1_r, cl1_n, cl1_0, cl1_J, okS_0, okS_1, okS_2, okS_3, okS_4, bB_0, bB_and, z_0, z_1, z_10, bB_t, bB_f, Bool.true_eq_false, Bool.false_eq_true, gT0, gT1, gT2, gT3, gT4, gT5, gT6, gF0, gF1, gF2, gF3, gF4, gS0, gS1, gC0, gC1, iT, iF, iS, iC, sT6_0, sT6_1, sF2, sF3, sF4_0, sF4_1, sS1, sC1, r5]
                simp only [s62_106, s62_121, s62_123, s62_123n, s62_124, s62_126, s62_127, Option.bind_some, Option.bind_none, Option.toList_some, Option.toList_none, List.nil_append, List.cons_append, ↓reduceIte, reduceCtorEq, cl1_i, cl1_r, cl1_n, cl1_0, cl1_J, okS_0, okS_1, okS_2, okS_3, okS_4, bB_0, bB_and, z_0, z_1, z_10, bB_t, bB_f, Bool.true_eq_false, Bool.false_eq_true, gT0, gT1, gT2, gT3, gT4, gT5, gT6, gF0, gF1, gF2, gF3, gF4, gS0, gS1, gC0, gC1, iT, iF, iS, iC, sT6_0, sT6_1, sF2, sF3, sF4_0, sF4_1, sS1, sC1]
              have hmod : ∀ (F : FlS) (s c : OpS) (th be qu : Nat → Int32) (mo : Int32) (li : Nat → LiS), ∃ R' O' A', RunM 119 [.ref 61, .int (nI q), .int (nI en.1), .int (nI q), .int (nI b)] (hp sc F s c th be qu mo li (hM (mS f (true) jl R O A))) = some (some (.int (if (cmq f q (wiO en b) st).1 = true then 0 else -9)), (hp sc F s c th be qu mo li (hM (mS ((cmq f q (wiO en b) st).2) ((cmq f q (wiO en b) st).1) (jA (cmq f q (wiO en b) st).1 jl) (R') (O') (A'))))) := by
                intro F s c th be qu mo li
                obtain ⟨R2, z5, z11, m3⟩ := mod F s c th be qu mo li
                rw [if_pos hV] at m3
                obtain ⟨R3, A3, r8⟩ := c105q (sc := sc) (F := F) (s := s) (c := c) (th := th) (be := be) (qu := qu) (mo := mo) (li := li) (f := f) (mt := true) (jl := jl) (R := R2) (A := A) (j := O.1) hd hX hq hst hF hlen
                refine ⟨R3, opf O.1 (encS (wiO en b)), A3, m3.trans ?_⟩
                simp only [s119_183, s119_183n, s119_184, s119_185, s119_188, s119_189, s119_190, s119_193, s119_193n, s119_194, Option.bind_some, Option.bind_none, Option.toList_some, Option.toList_none, List.nil_append, List.cons_append, ↓reduceIte, reduceCtorEq, cl1_i, cl1_r, cl1_n, cl1_0, cl1_J, okS_0, okS_1, okS_2, okS_3, okS_4, bB_0, bB_and, z_0, z_1, z_10, bB_t, bB_f, Bool.true_eq_false, Bool.false_eq_true, gT0, gT1, gT2, gT3, gT4, gT5, gT6, gF0, gF1, gF2, gF3, gF4, gS0, gS1, gC0, gC1, iT, iF, iS, iC, sT6_0, sT6_1, sF2, sF3, sF4_0, sF4_1, sS1, sC1, gM0, gM1, gM2, gM3, gM4, gM5, gM6, gM7, gM8, gM9, gM10, gM11, gM12, gM13, gM14, gM15, gM16, gM17, gM18, iM, sM5, sM6, sM11, sM12, sM13, sM14, sM18, sM2_0, sM2_1, sM3_0, sM3_1, sM4_0, sM4_1, mS_0, mS_1, mS_2, mS_3, mS_4, mS_5, mS_6, mS_7, mS_8, mS_9, mS_10, mS_11, mS_12, mS_13, mS_14, mS_15, mS_16, mS_17, mS_18, decide_true, decide_false, Bool.not_true, Bool.not_false, sM16r]
                simp only [s119_195, s119_198, s119_198n, s119_199, Option.bind_some, Option.bind_none, Option.toList_some, Option.toList_none, List.nil_append, List.cons_append, ↓reduceIte, reduceCtorEq, cl1_i, cl1_r, cl1_n, cl1_0, cl1_J, okS_0, okS_1, okS_2, okS_3, okS_4, bB_0, bB_and, z_0, z_1, z_10, bB_t, bB_f, Bool.true_eq_false, Bool.false_eq_true, gT0, gT1, gT2, gT3, gT4, gT5, gT6, gF0, gF1, gF2, gF3, gF4, gS0, gS1, gC0, gC1, iT, iF, iS, iC, sT6_0, sT6_1, sF2, sF3, sF4_0, sF4_1, sS1, sC1, gM0, gM1, gM2, gM3, gM4, gM5, gM6, gM7, gM8, gM9, gM10, gM11, gM12, gM13, gM14, gM15, gM16, gM17, gM18, iM, sM5, sM6, sM11, sM12, sM13, sM14, sM18, sM2_0, sM2_1, sM3_0, sM3_1, sM4_0, sM4_1, mS_0, mS_1, mS_2, mS_3, mS_4, mS_5, mS_6, mS_7, mS_8, mS_9, mS_10, mS_11, mS_12, mS_13, mS_14, mS_15, mS_16, mS_17, mS_18, decide_true, decide_false, Bool.not_true, Bool.not_false, sM16r, c107 (show ([] : List Int32).length < 32 by decide), List.nil_append]
                simp only [s119_200, s119_203, s119_203n, s119_204, s119_206, s119_208, s119_210, Option.bind_some, Option.bind_none, Option.toList_some, Option.toList_none, List.nil_append, List.cons_append, ↓reduceIte, reduceCtorEq, cl1_i, cl1_r, cl1_n, cl1_0, cl1_J, okS_0, okS_1, okS_2, okS_3, okS_4, bB_0, bB_and, z_0, z_1, z_10, bB_t, bB_f, Bool.true_eq_false, Bool.false_eq_true, gT0, gT1, gT2, gT3, gT4, gT5, gT6, gF0, gF1, gF2, gF3, gF4, gS0, gS1, gC0, gC1, iT, iF, iS, iC, sT6_0, sT6_1, sF2, sF3, sF4_0, sF4_1, sS1, sC1, gM0, gM1, gM2, gM3, gM4, gM5, gM6, gM7, gM8, gM9, gM10, gM11, gM12, gM13, gM14, gM15, gM16, gM17, gM18, iM, sM5, sM6, sM11, sM12, sM13, sM14, sM18, sM2_0, sM2_1, sM3_0, sM3_1, sM4_0, sM4_1, mS_0, mS_1, mS_2, mS_3, mS_4, mS_5, mS_6, mS_7, mS_8, mS_9, mS_10, mS_11, mS_12, mS_13, mS_14, mS_15, mS_16, mS_17, mS_18, decide_true, decide_false, Bool.not_true, Bool.not_false, sM16r, c107 (bs := [3]) (v := nI en.1) (Nat.le_of_ble_eq_true rfl), List.cons_append, List.nil_append]
                simp only [s119_212, s119_215, s119_215n, s119_216, s119_216n, s119_217, Option.bind_some, Option.bind_none, Option.toList_some, Option.toList_none, List.nil_append, List.cons_append, ↓reduceIte, reduceCtorEq, cl1_i, cl1_r, cl1_n, cl1_0, cl1_J, okS_0, okS_1, okS_2, okS_3, okS_4, bB_0, bB_and, z_0, z_1, z_10, bB_t, bB_f, Bool.true_eq_false, Bool.false_eq_true, gT0, gT1, gT2, gT3, gT4, gT5, gT6, gF0, gF1, gF2, gF3, gF4, gS0, gS1, gC0, gC1, iT, iF, iS, iC, sT6_0, sT6_1, sF2, sF3, sF4_0, sF4_1, sS1, sC1, gM0, gM1, gM2, gM3, gM4, gM5, gM6, gM7, gM8, gM9, gM10, gM11, gM12, gM13, gM14, gM15, gM16, gM17, gM18, iM, sM5, sM6, sM11, sM12, sM13, sM14, sM18, sM2_0, sM2_1, sM3_0, sM3_1, sM4_0, sM4_1, mS_0, mS_1, mS_2, mS_3, mS_4, mS_5, mS_6, mS_7, mS_8, mS_9, mS_10, mS_11, mS_12, mS_13, mS_14, mS_15, mS_16, mS_17, mS_18, decide_true, decide_false, Bool.not_true, Bool.not_false, sM16r, c118 (bs := [3, nI en.1]) (y := nI b) heO.1 (Nat.le_of_ble_eq_true rfl)]
                rw [show 3 :: nI en.1 :: encE en (nI b) = encS (wiO en b) from henc.symm]
                simp only [s119_218, Option.bind_some, Option.bind_none, Option.toList_some, Option.toList_none, List.nil_append, List.cons_append, ↓reduceIte, reduceCtorEq, cl1_i, cl1_r, cl1_n, cl1_0, cl1_J, okS_0, okS_1, okS_2, okS_3, okS_4, bB_0, bB_and, z_0, z_1, z_10, bB_t, bB_f, Bool.true_eq_false, Bool.false_eq_true, gT0, gT1, gT2, gT3, gT4, gT5, gT6, gF0, gF1, gF2, gF3, gF4, gS0, gS1, gC0, gC1, iT, iF, iS, iC, sT6_0, sT6_1, sF2, sF3, sF4_0, sF4_1, sS1, sC1, gM0, gM1, gM2, gM3, gM4, gM5, gM6, gM7, gM8, gM9, gM10, gM11, gM12, gM13, gM14, gM15, gM16, gM17, gM18, iM, sM5, sM6, sM11, sM12, sM13, sM14, sM18, sM2_0, sM2_1, sM3_0, sM3_1, sM4_0, sM4_1, mS_0, mS_1, mS_2, mS_3, mS_4, mS_5, mS_6, mS_7, mS_8, mS_9, mS_10, mS_11, mS_12, mS_13, mS_14, mS_15, mS_16, mS_17, mS_18, decide_true, decide_false, Bool.not_true, Bool.not_false, sM16r, r8]
                simp only [s119_221, s119_222, s119_225, Option.bind_some, Option.bind_none, Option.toList_some, Option.toList_none, List.nil_append, List.cons_append, ↓reduceIte, reduceCtorEq, cl1_i, cl1_r, cl1_n, cl1_0, cl1_J, okS_0, okS_1, okS_2, okS_3, okS_4, bB_0, bB_and, z_0, z_1, z_10, bB_t, bB_f, Bool.true_eq_false, Bool.false_eq_true, gT0, gT1, gT2, gT3, gT4, gT5, gT6, gF0, gF1, gF2, gF3, gF4, gS0, gS1, gC0, gC1, iT, iF, iS, iC, sT6_0, sT6_1, sF2, sF3, sF4_0, sF4_1, sS1, sC1, gM0, gM1, gM2, gM3, gM4, gM5, gM6, gM7, gM8, gM9, gM10, gM11, gM12, gM13, gM14, gM15, gM16, gM17, gM18, iM, sM5, sM6, sM11, sM12, sM13, sM14, sM18, sM2_0, sM2_1, sM3_0, sM3_1, sM4_0, sM4_1, mS_0, mS_1, mS_2, mS_3, mS_4, mS_5, mS_6, mS_7, mS_8, mS_9, mS_10, mS_11, mS_12, mS_13, mS_14, mS_15, mS_16, mS_17, mS_18, decide_true, decide_false, Bool.not_true, Bool.not_false, sM16r, c111, Bool.and_true]
              cases hrr : (cmq f q (wiO en b) st).1 with
              | true =>
                have hX' := x1 hrr
                have hA' : LiA (upO Lo q (some (apS st (wiO en b)))) (upL li q l') := hA.up r6
                obtain ⟨th', qu2, r9, r10⟩ := c73t (sc := sc) (F := fB (cmq f q (wiO en b) st).2) (s := s') (c := opf c.1 (encS (wiO en b))) (th := th) (be := be') (qu := qu') (mo := 1) (mm := hM (mS f true jl R O A)) (v := 0) ⟨_, hX'⟩ hA'
                obtain ⟨R', O', A', m9⟩ := hmod (fB (cmq f q (wiO en b) st).2) s' (opf c.1 (encS (wiO en b))) th' be' qu2 1 (upL li q l')
                rw [hrr] at m9
                rw [hrr, show bB true = 1 from rfl, r9] at hcls
                refine ⟨some (.int 0), _, (hp sc (fB ((cmq f q (wiO en b) st).2)) (s') (opf c.1 (encS (wiO en b))) (th') (be') (qu2) (bB (true)) (upL li q l') (hM (mS ((cmq f q (wiO en b) st).2) (true) (jA true jl) (R') (O') (A')))), hcls.trans ?_, m9, mkI hX' f1 (fun _ => ⟨dk2 hrr, f2, f3, hA', r10⟩)⟩
                simp only [s62_130, Option.bind_some, Option.bind_none, Option.toList_some, Option.toList_none, List.nil_append, List.cons_append, ↓reduceIte, reduceCtorEq, cl1_i, cl1_r, cl1_n, cl1_0, cl1_J, okS_0, okS_1, okS_2, okS_3, okS_4, bB_0, bB_and, z_0, z_1, z_10, bB_t, bB_f, Bool.true_eq_false, Bool.false_eq_true, gT0, gT1, gT2, gT3, gT4, gT5, gT6, gF0, gF1, gF2, gF3, gF4, gS0, gS1, gC0, gC1, iT, iF, iS, iC, sT6_0, sT6_1, sF2, sF3, sF4_0, sF4_1, sS1, sC1]
              | false =>
                obtain ⟨R', O', A', m9⟩ := hmod (fB (cmq f q (wiO en b) st).2) s' (opf c.1 (encS (wiO en b))) th be' qu' 0 (upL li q l')
                rw [hrr] at m9
                rw [hrr, show bB false = 0 from rfl, c73f] at hcls
                refine ⟨some (.int (-9)), _, (hp sc (fB ((cmq f q (wiO en b) st).2)) (s') (opf c.1 (encS (wiO en b))) th (be') (qu') (bB (false)) (upL li q l') (hM (mS ((cmq f q (wiO en b) st).2) (false) (jA false jl) (R') (O') (A')))), hcls.trans ?_, m9, mkI (x2 hrr) hS (fun h => by cases h)⟩
                simp only [s62_130, Option.bind_some, Option.bind_none, Option.toList_some, Option.toList_none, List.nil_append, List.cons_append, ↓reduceIte, reduceCtorEq, cl1_i, cl1_r, cl1_n, cl1_0, cl1_J, okS_0, okS_1, okS_2, okS_3, okS_4, bB_0, bB_and, z_0, z_1, z_10, bB_t, bB_f, Bool.true_eq_false, Bool.false_eq_true, gT0, gT1, gT2, gT3, gT4, gT5, gT6, gF0, gF1, gF2, gF3, gF4, gS0, gS1, gC0, gC1, iT, iF, iS, iC, sT6_0, sT6_1, sF2, sF3, sF4_0, sF4_1, sS1, sC1]
            · -- across
              have hneI : (nI q = nI r) = False := by rw [nI_eqq hq hr]; simp [hqr]
              have hts : ∃ ts, Lo r = some ts := by
                by_cases hr9 : r = 0
                · subst hr9; exact Option.isSome_iff_exists.mp h0
                · exact Option.isSome_iff_exists.mp (hS.1 r hr1 hr9)
              obtain ⟨ts, hts⟩ := hts
              have hlr := lsO_of hts
              have hfull : fiE ts.1 (nI b) = none → ts.1.length < 4 := fun h9 => by
                have h4 := (hX.okL hr).1
                rw [hlr] at h4
                rcases Nat.lt_or_ge ts.1.length 4 with h8 | h8
                · exact h8
                · exfalso
                  unfold mvV mvT at hV
                  rw [hlr, h9] at hV
                  rw [if_neg (show ¬ false = true by decide), if_pos ⟨rfl, hqr, by omega⟩] at hV
                  exact absurd hV (by decide)
              have hF : FitS ts (acO q en b) := FitA hq heO hb1 hb2 hfull
              obtain ⟨l1, s1, r5, r6⟩ := c87a (sc := sc) (f := f) (s := s) (c := c) (th := th) (be := be') (qu := qu') (mo := 1) (mm := hM (mS f true jl R O A)) hX hA hq hr hts he hF hb1 hb2
              have henc := encA (q := q) heO.1 hb1 hb2
              have hlen : (encS (acO q en b)).length ≤ 32 := by
                rw [henc, List.length_append]
                simp only [List.length_cons, List.length_nil]
                omega
              obtain ⟨x1, x2⟩ := hX.cm hr hts hF
              obtain ⟨dk1, dk2⟩ := cmq_dark (f := f) (q := r) (os := acO q en b) (st := ts) hd
              have hap : apS ts (acO q en b) = ((apO ts (enOp (b, en.2))).1, some (q, en.1)) := rfl
              obtain ⟨p1, p2⟩ := ap_enOp ts (b, en.2)
              have hkid : ∀ z ∈ kids (apS ts (acO q en b)).1, Rch (lsO Lo) 0 z := fun z hz => by
                rw [hap] at hz
                rcases p2 z hz with h9 | ⟨h8, h9⟩
                · exact hr1.step (by rw [hlr]; exact h9)
                · rw [h9]; exact henk h8
              obtain ⟨a1, a2, a3⟩ := finA hS hno (r := r) hkid
              have hcls : RunM 62 [.ref 1, .int (nI q), .int (nI en.1), .int (nI r), .int (nI b)] (hp sc (fB f) s c th be qu (bB (true)) li (hM (mS f (true) jl R O A))) = ((Run 87 52 [some (.ref 1), some (.ref (13 + 6 * q)), some (.int (nI k)), some (.ref (13 + 6 * r)), some (.int (nI b)), some (.int (nI en.1))] [.int (bB (cmq f r (acO q en b) ts).1)] (hp sc (fB (cmq f r (acO q en b) ts).2) s1 (opf c.1 (encS (acO q en b))) th be' qu' 1 (upL li r l1) (hM (mS f true jl R O A)))).bind fun p => Run 62 121 [some (.ref 1), some (.int (nI q)), some (.int (nI en.1)), some (.int (nI r)), some (.int (nI b)), some (.ref (13 + 6 * q)), some (.ref (13 + 6 * r)), some (.int (nI k)), some (.int 0), none] (p.1.toList ++ []) p.2) := by
                refine e1.trans ?_
                simp only [s62_91, s62_92, s62_93, s62_109, s62_109n, s62_110, s62_110n, s62_112, s62_114, s62_114n, s62_116, Option.bind_some, Option.bind_none, Option.toList_some, Option.toList_none, List.nil_append, List.cons_append, ↓reduceIte, reduceCtorEq, cl1_i, cl1_r, cl1_n, cl1_0, cl1_J, okS_0, okS_1, okS_2, okS_3, okS_4, bB_0, bB_and, z_0, z_1, z_10, bB_t, bB_f, Bool.true_eq_false, Bool.false_eq_true, gT0, gT1, gT2, gT3, gT4, gT5, gT6, gF0, gF1, gF2, gF3, gF4, gS0, gS1, gC0, gC1, iT, iF, iS, iC, sT6_0, sT6_1, sF2, sF3, sF4_0, sF4_1, sS1, sC1, hneI]
                simp only [s62_118, Option.bind_some, Option.bind_none, Option.toList_some, Option.toList_none, List.nil_append, List.cons_append, ↓reduceIte, reduceCtorEq, cl1_i, cl1_r, cl1_n, cl1_0, cl1_J, okS_0, okS_1, okS_2, okS_3, okS_4, bB_0, bB_and, z_0, z_1, z_10, bB_t, bB_f, Bool.true_eq_false, Bool.false_eq_true, gT0, gT1, gT2, gT3, gT4, gT5, gT6, gF0, gF1, gF2, gF3, gF4, gS0, gS1, gC0, gC1, iT, iF, iS, iC, sT6_0, sT6_1, sF2, sF3, sF4_0, sF4_1, sS1, sC1, r5]
              have hend : ∀ (v : Bool) (h : AH), Run 62 121 [some (.ref 1), some (.int (nI q)), some (.int (nI en.1)), some (.int (nI r)), some (.int (nI b)), some (.ref (13 + 6 * q)), some (.ref (13 + 6 * r)), some (.int (nI k)), some (.int 0), none] [.int (bB v)] h = if isO h 1 4 = true then (RunM 73 [.ref 1, .int (bB v), .int 0] h).bind fun p => Run 62 130 [some (.ref 1), some (.int (nI q)), some (.int (nI en.1)), some (.int (nI r)), some (.int (nI b)), some (.ref (13 + 6 * q)), some (.ref (13 + 6 * r)), some (.int (nI k)), some (.int 0), some (.int (bB v))] (p.1.toList ++ []) p.2 else Run 62 121 [some (.ref 1), some (.int (nI q)), some (.int (nI en.1)), some (.int (nI r)), some (.int (nI b)), some (.ref (13 + 6 * q)), some (.ref (13 + 6 * r)), some (.int (nI k)), some (.int 0), none] [.int (bB v)] h := by
                intro v h
                by_cases hi : isO h 1 4 = true
                · rw [if_pos hi]
                  simp only [s62_121, s62_123, s62_123n, s62_124, s62_126, s62_127, Option.bind_some, Option.bind_none, Option.toList_some, Option.toList_none, List.nil_append, List.cons_append, ↓reduceIte, reduceCtorEq, cl1_i, cl1_r, cl1_n, cl1_0, cl1_J, okS_0, okS_1, okS_2, okS_3, okS_4, bB_0, bB_and, z_0, z_1, z_10, bB_t, bB_f, Bool.true_eq_false, Bool.false_eq_true, gT0, gT1, gT2, gT3, gT4, gT5, gT6, gF0, gF1, gF2, gF3, gF4, gS0, gS1, gC0, gC1, iT, iF, iS, iC, sT6_0, sT6_1, sF2, sF3, sF4_0, sF4_1, sS1, sC1, hi]
                · rw [if_neg hi]
              have hmod : ∀ (F : FlS) (s c : OpS) (th be qu : Nat → Int32) (mo : Int32) (li : Nat → LiS), ∃ R' A' z5 z11, RunM 119 [.ref 61, .int (nI q), .int (nI en.1), .int (nI r), .int (nI b)] (hp sc F s c th be qu mo li (hM (mS f (true) jl R O A))) = Run 119 258 [some (.ref 61), some (.int (nI q)), some (.int (nI en.1)), some (.int (nI r)), some (.int (nI b)), some (.int z5), some (.int (nI k)), some (.int (nI en.2.1)), some (.int (nI en.2.2.1)), some (.long en.2.2.2), none, some (.int z11)] [.int (bB (cmq f r (acO q en b) ts).1)] (hp sc F s c th be qu mo li (hM (mS ((cmq f r (acO q en b) ts).2) ((cmq f r (acO q en b) ts).1) (jA (cmq f r (acO q en b) ts).1 jl) (R') (opf O.1 (encS (acO q en b))) (A')))) := by
                intro F s c th be qu mo li
                obtain ⟨R2, z5, z11, m3⟩ := mod F s c th be qu mo li
                rw [if_pos hV] at m3
                obtain ⟨R3, A3, r8⟩ := c105q (sc := sc) (F := F) (s := s) (c := c) (th := th) (be := be) (qu := qu) (mo := mo) (li := li) (f := f) (mt := true) (jl := jl) (R := R2) (A := A) (j := O.1) hd hX hr hts hF hlen
                rw [Bool.and_true] at r8
                refine ⟨R3, A3, z5, z11, m3.trans ?_⟩
                simp only [s119_183, s119_183n, s119_184, s119_185, s119_188, s119_189, s119_190, s119_226, s119_226n, s119_227, s119_229, s119_231, s119_233, Option.bind_some, Option.bind_none, Option.toList_some, Option.toList_none, List.nil_append, List.cons_append, ↓reduceIte, reduceCtorEq, cl1_i, cl1_r, cl1_n, cl1_0, cl1_J, okS_0, okS_1, okS_2, okS_3, okS_4, bB_0, bB_and, z_0, z_1, z_10, bB_t, bB_f, Bool.true_eq_false, Bool.false_eq_true, gT0, gT1, gT2, gT3, gT4, gT5, gT6, gF0, gF1, gF2, gF3, gF4, gS0, gS1, gC0, gC1, iT, iF, iS, iC, sT6_0, sT6_1, sF2, sF3, sF4_0, sF4_1, sS1, sC1, gM0, gM1, gM2, gM3, gM4, gM5, gM6, gM7, gM8, gM9, gM10, gM11, gM12, gM13, gM14, gM15, gM16, gM17, gM18, iM, sM5, sM6, sM11, sM12, sM13, sM14, sM18, sM2_0, sM2_1, sM3_0, sM3_1, sM4_0, sM4_1, mS_0, mS_1, mS_2, mS_3, mS_4, mS_5, mS_6, mS_7, mS_8, mS_9, mS_10, mS_11, mS_12, mS_13, mS_14, mS_15, mS_16, mS_17, mS_18, decide_true, decide_false, Bool.not_true, Bool.not_false, sM16r, hneI]
                simp only [s119_235, s119_238, s119_238n, s119_239, Option.bind_some, Option.bind_none, Option.toList_some, Option.toList_none, List.nil_append, List.cons_append, ↓reduceIte, reduceCtorEq, cl1_i, cl1_r, cl1_n, cl1_0, cl1_J, okS_0, okS_1, okS_2, okS_3, okS_4, bB_0, bB_and, z_0, z_1, z_10, bB_t, bB_f, Bool.true_eq_false, Bool.false_eq_true, gT0, gT1, gT2, gT3, gT4, gT5, gT6, gF0, gF1, gF2, gF3, gF4, gS0, gS1, gC0, gC1, iT, iF, iS, iC, sT6_0, sT6_1, sF2, sF3, sF4_0, sF4_1, sS1, sC1, gM0, gM1, gM2, gM3, gM4, gM5, gM6, gM7, gM8, gM9, gM10, gM11, gM12, gM13, gM14, gM15, gM16, gM17, gM18, iM, sM5, sM6, sM11, sM12, sM13, sM14, sM18, sM2_0, sM2_1, sM3_0, sM3_1, sM4_0, sM4_1, mS_0, mS_1, mS_2, mS_3, mS_4, mS_5, mS_6, mS_7, mS_8, mS_9, mS_10, mS_11, mS_12, mS_13, mS_14, mS_15, mS_16, mS_17, mS_18, decide_true, decide_false, Bool.not_true, Bool.not_false, sM16r, c118 (bs := []) (y := nI b) heO.1 (Nat.le_of_ble_eq_true rfl), List.nil_append]
                simp only [s119_240, s119_243, s119_243n, s119_244, Option.bind_some, Option.bind_none, Option.toList_some, Option.toList_none, List.nil_append, List.cons_append, ↓reduceIte, reduceCtorEq, cl1_i, cl1_r, cl1_n, cl1_0, cl1_J, okS_0, okS_1, okS_2, okS_3, okS_4, bB_0, bB_and, z_0, z_1, z_10, bB_t, bB_f, Bool.true_eq_false, Bool.false_eq_true, gT0, gT1, gT2, gT3, gT4, gT5, gT6, gF0, gF1, gF2, gF3, gF4, gS0, gS1, gC0, gC1, iT, iF, iS, iC, sT6_0, sT6_1, sF2, sF3, sF4_0, sF4_1, sS1, sC1, gM0, gM1, gM2, gM3, gM4, gM5, gM6, gM7, gM8, gM9, gM10, gM11, gM12, gM13, gM14, gM15, gM16, gM17, gM18, iM, sM5, sM6, sM11, sM12, sM13, sM14, sM18, sM2_0, sM2_1, sM3_0, sM3_1, sM4_0, sM4_1, mS_0, mS_1, mS_2, mS_3, mS_4, mS_5, mS_6, mS_7, mS_8, mS_9, mS_10, mS_11, mS_12, mS_13, mS_14, mS_15, mS_16, mS_17, mS_18, decide_true, decide_false, Bool.not_true, Bool.not_false, sM16r, c107 (bs := encE en (nI b)) (v := 4) (by omega)]
                simp only [s119_245, s119_248, s119_248n, s119_249, Option.bind_some, Option.bind_none, Option.toList_some, Option.toList_none, List.nil_append, List.cons_append, ↓reduceIte, reduceCtorEq, cl1_i, cl1_r, cl1_n, cl1_0, cl1_J, okS_0, okS_1, okS_2, okS_3, okS_4, bB_0, bB_and, z_0, z_1, z_10, bB_t, bB_f, Bool.true_eq_false, Bool.false_eq_true, gT0, gT1, gT2, gT3, gT4, gT5, gT6, gF0, gF1, gF2, gF3, gF4, gS0, gS1, gC0, gC1, iT, iF, iS, iC, sT6_0, sT6_1, sF2, sF3, sF4_0, sF4_1, sS1, sC1, gM0, gM1, gM2, gM3, gM4, gM5, gM6, gM7, gM8, gM9, gM10, gM11, gM12, gM13, gM14, gM15, gM16, gM17, gM18, iM, sM5, sM6, sM11, sM12, sM13, sM14, sM18, sM2_0, sM2_1, sM3_0, sM3_1, sM4_0, sM4_1, mS_0, mS_1, mS_2, mS_3, mS_4, mS_5, mS_6, mS_7, mS_8, mS_9, mS_10, mS_11, mS_12, mS_13, mS_14, mS_15, mS_16, mS_17, mS_18, decide_true, decide_false, Bool.not_true, Bool.not_false, sM16r, c107 (bs := encE en (nI b) ++ [4]) (v := nI q) (by simp only [List.length_append, List.length_cons, List.length_nil]; omega)]
                simp only [s119_250, s119_253, s119_253n, s119_254, Option.bind_some, Option.bind_none, Option.toList_some, Option.toList_none, List.nil_append, List.cons_append, ↓reduceIte, reduceCtorEq, cl1_i, cl1_r, cl1_n, cl1_0, cl1_J, okS_0, okS_1, okS_2, okS_3, okS_4, bB_0, bB_and, z_0, z_1, z_10, bB_t, bB_f, Bool.true_eq_false, Bool.false_eq_true, gT0, gT1, gT2, gT3, gT4, gT5, gT6, gF0, gF1, gF2, gF3, gF4, gS0, gS1, gC0, gC1, iT, iF, iS, iC, sT6_0, sT6_1, sF2, sF3, sF4_0, sF4_1, sS1, sC1, gM0, gM1, gM2, gM3, gM4, gM5, gM6, gM7, gM8, gM9, gM10, gM11, gM12, gM13, gM14, gM15, gM16, gM17, gM18, iM, sM5, sM6, sM11, sM12, sM13, sM14, sM18, sM2_0, sM2_1, sM3_0, sM3_1, sM4_0, sM4_1, mS_0, mS_1, mS_2, mS_3, mS_4, mS_5, mS_6, mS_7, mS_8, mS_9, mS_10, mS_11, mS_12, mS_13, mS_14, mS_15, mS_16, mS_17, mS_18, decide_true, decide_false, Bool.not_true, Bool.not_false, sM16r, c107 (bs := encE en (nI b) ++ [4] ++ [nI q]) (v := nI en.1) (by simp only [List.length_append, List.length_cons, List.length_nil]; omega)]
                rw [show encE en (nI b) ++ [4] ++ [nI q] ++ [nI en.1] = encS (acO q en b) by rw [henc]; simp only [List.append_assoc, List.cons_append, List.nil_append]]
                simp only [s119_255, Option.bind_some, Option.bind_none, Option.toList_some, Option.toList_none, List.nil_append, List.cons_append, ↓reduceIte, reduceCtorEq, cl1_i, cl1_r, cl1_n, cl1_0, cl1_J, okS_0, okS_1, okS_2, okS_3, okS_4, bB_0, bB_and, z_0, z_1, z_10, bB_t, bB_f, Bool.true_eq_false, Bool.false_eq_true, gT0, gT1, gT2, gT3, gT4, gT5, gT6, gF0, gF1, gF2, gF3, gF4, gS0, gS1, gC0, gC1, iT, iF, iS, iC, sT6_0, sT6_1, sF2, sF3, sF4_0, sF4_1, sS1, sC1, gM0, gM1, gM2, gM3, gM4, gM5, gM6, gM7, gM8, gM9, gM10, gM11, gM12, gM13, gM14, gM15, gM16, gM17, gM18, iM, sM5, sM6, sM11, sM12, sM13, sM14, sM18, sM2_0, sM2_1, sM3_0, sM3_1, sM4_0, sM4_1, mS_0, mS_1, mS_2, mS_3, mS_4, mS_5, mS_6, mS_7, mS_8, mS_9, mS_10, mS_11, mS_12, mS_13, mS_14, mS_15, mS_16, mS_17, mS_18, decide_true, decide_false, Bool.not_true, Bool.not_false, sM16r, r8]
              cases hc1 : (cmq f r (acO q en b) ts).1 with
              | false =>
                rw [hc1] at hcls hmod
                obtain ⟨R', A', z5, z11, m9⟩ := hmod (fB (cmq f r (acO q en b) ts).2) s1 (opf c.1 (encS (acO q en b))) th be' qu' 0 (upL li r l1)
                refine ⟨some (.int (-9)), (hp sc (fB ((cmq f r (acO q en b) ts).2)) (s1) (opf c.1 (encS (acO q en b))) th (be') (qu') (bB (false)) (upL li r l1) (hM (mS f (true) jl R O A))), (hp sc (fB ((cmq f r (acO q en b) ts).2)) (s1) (opf c.1 (encS (acO q en b))) th (be') (qu') (bB (false)) (upL li r l1) (hM (mS ((cmq f r (acO q en b) ts).2) (false) (jA false jl) (R') (opf O.1 (encS (acO q en b))) (A')))), hcls.trans ?_, m9.trans ?_, mkI (x2 hc1) hS (fun h => by cases h)⟩
                · simp only [s87_52, s87_55, s87_56, Option.bind_some, Option.bind_none, Option.toList_some, Option.toList_none, List.nil_append, List.cons_append, ↓reduceIte, reduceCtorEq, cl1_i, cl1_r, cl1_n, cl1_0, cl1_J, okS_0, okS_1, okS_2, okS_3, okS_4, bB_0, bB_and, z_0, z_1, z_10, bB_t, bB_f, Bool.true_eq_false, Bool.false_eq_true, gT0, gT1, gT2, gT3, gT4, gT5, gT6, gF0, gF1, gF2, gF3, gF4, gS0, gS1, gC0, gC1, iT, iF, iS, iC, sT6_0, sT6_1, sF2, sF3, sF4_0, sF4_1, sS1, sC1]
                  simp only [s62_121, s62_123, s62_123n, s62_124, s62_126, s62_127, Option.bind_some, Option.bind_none, Option.toList_some, Option.toList_none, List.nil_append, List.cons_append, ↓reduceIte, reduceCtorEq, cl1_i, cl1_r, cl1_n, cl1_0, cl1_J, okS_0, okS_1, okS_2, okS_3, okS_4, bB_0, bB_and, z_0, z_1, z_10, bB_t, bB_f, Bool.true_eq_false, Bool.false_eq_true, gT0, gT1, gT2, gT3, gT4, gT5, gT6, gF0, gF1, gF2, gF3, gF4, gS0, gS1, gC0, gC1, iT, iF, iS, iC, sT6_0, sT6_1, sF2, sF3, sF4_0, sF4_1, sS1, sC1, c73f]
                  simp only [s62_130, Option.bind_some, Option.bind_none, Option.toList_some, Option.toList_none, List.nil_append, List.cons_append, ↓reduceIte, reduceCtorEq, cl1_i, cl1_r, cl1_n, cl1_0, cl1_J, okS_0, okS_1, okS_2, okS_3, okS_4, bB_0, bB_and, z_0, z_1, z_10, bB_t, bB_f, Bool.true_eq_false, Bool.false_eq_true, gT0, gT1, gT2, gT3, gT4, gT5, gT6, gF0, gF1, gF2, gF3, gF4, gS0, gS1, gC0, gC1, iT, iF, iS, iC, sT6_0, sT6_1, sF2, sF3, sF4_0, sF4_1, sS1, sC1]
                · simp only [s119_258, s119_261, s119_263, Option.bind_some, Option.bind_none, Option.toList_some, Option.toList_none, List.nil_append, List.cons_append, ↓reduceIte, reduceCtorEq, cl1_i, cl1_r, cl1_n, cl1_0, cl1_J, okS_0, okS_1, okS_2, okS_3, okS_4, bB_0, bB_and, z_0, z_1, z_10, bB_t, bB_f, Bool.true_eq_false, Bool.false_eq_true, gT0, gT1, gT2, gT3, gT4, gT5, gT6, gF0, gF1, gF2, gF3, gF4, gS0, gS1, gC0, gC1, iT, iF, iS, iC, sT6_0, sT6_1, sF2, sF3, sF4_0, sF4_1, sS1, sC1]
              | true =>
                rw [hc1] at hcls hmod
                have hX1 := x1 hc1
                have hd1 := dk2 hc1
                have hA1 : LiA (upO Lo r (some (apS ts (acO q en b)))) (upL li r l1) := hA.up r6
                have hst1 : upO Lo r (some (apS ts (acO q en b))) q = some st := by rw [upO_ne _ _ hqr]; exact hst
                obtain ⟨l2, s2, k1, k2⟩ := c87b (sc := sc) (f := (cmq f r (acO q en b) ts).2) (s := s1) (c := opf c.1 (encS (acO q en b))) (th := th) (be := be') (qu := qu') (mo := 1) (mm := hM (mS f true jl R O A)) hX1 hA1 hq (a := en.1) heO.1.2.1 hst1 (y2 := nI k) (y4 := nI b) (z3 := 13 + 6 * r)
                obtain ⟨y1, y2⟩ := hX1.cm hq hst1 (FitG st heO.1.2.1)
                obtain ⟨dk3, dk4⟩ := cmq_dark (f := (cmq f r (acO q en b) ts).2) (q := q) (os := gnO en.1) (st := st) hd1
                obtain ⟨g1, g2, g3, g4⟩ := finG (a := en.1) a1 hst1
                generalize hL1 : upO Lo r (some (apS ts (acO q en b))) = Lo1 at *
                generalize hw1 : (cmq f r (acO q en b) ts).2 = w1 at *
                have hmod2 : ∀ (F : FlS) (s c : OpS) (th be qu : Nat → Int32) (mo : Int32) (li : Nat → LiS), ∃ R' O' A' z5 z11, RunM 119 [.ref 61, .int (nI q), .int (nI en.1), .int (nI r), .int (nI b)] (hp sc F s c th be qu mo li (hM (mS f (true) jl R O A))) = Run 119 284 [some (.ref 61), some (.int (nI q)), some (.int (nI en.1)), some (.int (nI r)), some (.int (nI b)), some (.int z5), some (.int (nI k)), some (.int (nI en.2.1)), some (.int (nI en.2.2.1)), some (.long en.2.2.2), none, some (.int z11)] [.int (bB (cmq w1 q (gnO en.1) st).1)] (hp sc F s c th be qu mo li (hM (mS ((cmq w1 q (gnO en.1) st).2) ((cmq w1 q (gnO en.1) st).1) (jA (cmq w1 q (gnO en.1) st).1 jl) (R') (O') (A')))) := by
                  intro F s c th be qu mo li
                  obtain ⟨R2, A2, z5, z11, m3⟩ := hmod F s c th be qu mo li
                  rw [jA_t] at m3
                  obtain ⟨R3, A3, r8⟩ := c105q (sc := sc) (F := F) (s := s) (c := c) (th := th) (be := be) (qu := qu) (mo := mo) (li := li) (f := w1) (mt := true) (jl := jl) (R := R2) (A := A2) (j := (opf O.1 (encS (acO q en b))).1) hd1 hX1 hq hst1 (FitG st heO.1.2.1) (by rw [encG]; exact Nat.le_of_ble_eq_true rfl)
                  rw [Bool.and_true, encG] at r8
                  refine ⟨R3, opf (opf O.1 (encS (acO q en b))).1 [3, nI en.1], A3, z5, z11, m3.trans ?_⟩
                  simp only [s119_258, s119_264, s119_264n, s119_265, s119_266, s119_269, s119_269n, s119_270, Option.bind_some, Option.bind_none, Option.toList_some, Option.toList_none, List.nil_append, List.cons_append, ↓reduceIte, reduceCtorEq, cl1_i, cl1_r, cl1_n, cl1_0, cl1_J, okS_0, okS_1, okS_2, okS_3, okS_4, bB_0, bB_and, z_0, z_1, z_10, bB_t, bB_f, Bool.true_eq_false, Bool.false_eq_true, gT0, gT1, gT2, gT3, gT4, gT5, gT6, gF0, gF1, gF2, gF3, gF4, gS0, gS1, gC0, gC1, iT, iF, iS, iC, sT6_0, sT6_1, sF2, sF3, sF4_0, sF4_1, sS1, sC1, gM0, gM1, gM2, gM3, gM4, gM5, gM6, gM7, gM8, gM9, gM10, gM11, gM12, gM13, gM14, gM15, gM16, gM17, gM18, iM, sM5, sM6, sM11, sM12, sM13, sM14, sM18, sM2_0, sM2_1, sM3_0, sM3_1, sM4_0, sM4_1, mS_0, mS_1, mS_2, mS_3, mS_4, mS_5, mS_6, mS_7, mS_8, mS_9, mS_10, mS_11, mS_12, mS_13, mS_14, mS_15, mS_16, mS_17, mS_18, decide_true, decide_false, Bool.not_true, Bool.not_false, sM16r]
                  simp only [s119_271, s119_274, s119_274n, s119_275, Option.bind_some, Option.bind_none, Option.toList_some, Option.toList_none, List.nil_append, List.cons_append, ↓reduceIte, reduceCtorEq, cl1_i, cl1_r, cl1_n, cl1_0, cl1_J, okS_0, okS_1, okS_2, okS_3, okS_4, bB_0, bB_and, z_0, z_1, z_10, bB_t, bB_f, Bool.true_eq_false, Bool.false_eq_true, gT0, gT1, gT2, gT3, gT4, gT5, gT6, gF0, gF1, gF2, gF3, gF4, gS0, gS1, gC0, gC1, iT, iF, iS, iC, sT6_0, sT6_1, sF2, sF3, sF4_0, sF4_1, sS1, sC1, gM0, gM1, gM2, gM3, gM4, gM5, gM6, gM7, gM8, gM9, gM10, gM11, gM12, gM13, gM14, gM15, gM16, gM17, gM18, iM, sM5, sM6, sM11, sM12, sM13, sM14, sM18, sM2_0, sM2_1, sM3_0, sM3_1, sM4_0, sM4_1, mS_0, mS_1, mS_2, mS_3, mS_4, mS_5, mS_6, mS_7, mS_8, mS_9, mS_10, mS_11, mS_12, mS_13, mS_14, mS_15, mS_16, mS_17, mS_18, decide_true, decide_false, Bool.not_true, Bool.not_false, sM16r, c107 (show ([] : List Int32).length < 32 by decide), List.nil_append]
                  simp only [s119_276, s119_279, s119_279n, s119_280, Option.bind_some, Option.bind_none, Option.toList_some, Option.toList_none, List.nil_append, List.cons_append, ↓reduceIte, reduceCtorEq, cl1_i, cl1_r, cl1_n, cl1_0, cl1_J, okS_0, okS_1, okS_2, okS_3, okS_4, bB_0, bB_and, z_0, z_1, z_10, bB_t, bB_f, Bool.true_eq_false, Bool.false_eq_true, gT0, gT1, gT2, gT3, gT4, gT5, gT6, gF0, gF1, gF2, gF3, gF4, gS0, gS1, gC0, gC1, iT, iF, iS, iC, sT6_0, sT6_1, sF2, sF3, sF4_0, sF4_1, sS1, sC1, gM0, gM1, gM2, gM3, gM4, gM5, gM6, gM7, gM8, gM9, gM10, gM11, gM12, gM13, gM14, gM15, gM16, gM17, gM18, iM, sM5, sM6, sM11, sM12, sM13, sM14, sM18, sM2_0, sM2_1, sM3_0, sM3_1, sM4_0, sM4_1, mS_0, mS_1, mS_2, mS_3, mS_4, mS_5, mS_6, mS_7, mS_8, mS_9, mS_10, mS_11, mS_12, mS_13, mS_14, mS_15, mS_16, mS_17, mS_18, decide_true, decide_false, Bool.not_true, Bool.not_false, sM16r, c107 (bs := [3]) (v := nI en.1) (Nat.le_of_ble_eq_true rfl), List.cons_append, List.nil_append]
                  simp only [s119_281, Option.bind_some, Option.bind_none, Option.toList_some, Option.toList_none, List.nil_append, List.cons_append, ↓reduceIte, reduceCtorEq, cl1_i, cl1_r, cl1_n, cl1_0, cl1_J, okS_0, okS_1, okS_2, okS_3, okS_4, bB_0, bB_and, z_0, z_1, z_10, bB_t, bB_f, Bool.true_eq_false, Bool.false_eq_true, gT0, gT1, gT2, gT3, gT4, gT5, gT6, gF0, gF1, gF2, gF3, gF4, gS0, gS1, gC0, gC1, iT, iF, iS, iC, sT6_0, sT6_1, sF2, sF3, sF4_0, sF4_1, sS1, sC1, gM0, gM1, gM2, gM3, gM4, gM5, gM6, gM7, gM8, gM9, gM10, gM11, gM12, gM13, gM14, gM15, gM16, gM17, gM18, iM, sM5, sM6, sM11, sM12, sM13, sM14, sM18, sM2_0, sM2_1, sM3_0, sM3_1, sM4_0, sM4_1, mS_0, mS_1, mS_2, mS_3, mS_4, mS_5, mS_6, mS_7, mS_8, mS_9, mS_10, mS_11, mS_12, mS_13, mS_14, mS_15, mS_16, mS_17, mS_18, decide_true, decide_false, Bool.not_true, Bool.not_false, sM16r, r8]
                rw [show bB true = 1 from rfl, k1] at hcls
                cases hc2 : (cmq w1 q (gnO en.1) st).1 with
                | false =>
                  rw [hc2] at hcls hmod2
                  obtain ⟨R', O', A', z5, z11, m9⟩ := hmod2 (fB (cmq w1 q (gnO en.1) st).2) s2 (opf (opf c.1 (encS (acO q en b))).1 (encS (gnO en.1))) th be' qu' 0 (upL (upL li r l1) q l2)
                  refine ⟨some (.int (-9)), (hp sc (fB ((cmq w1 q (gnO en.1) st).2)) (s2) (opf (opf c.1 (encS (acO q en b))).1 (encS (gnO en.1))) th (be') (qu') (bB (false)) (upL (upL li r l1) q l2) (hM (mS f (true) jl R O A))), (hp sc (fB ((cmq w1 q (gnO en.1) st).2)) (s2) (opf (opf c.1 (encS (acO q en b))).1 (encS (gnO en.1))) th (be') (qu') (bB (false)) (upL (upL li r l1) q l2) (hM (mS ((cmq w1 q (gnO en.1) st).2) (false) (jA false jl) (R') (O') (A')))), hcls.trans ?_, m9.trans ?_, mkI (y2 hc2) a1 (fun h => by cases h)⟩
                  · simp only [s87_81, s87_84, s87_85, Option.bind_some, Option.bind_none, Option.toList_some, Option.toList_none, List.nil_append, List.cons_append, ↓reduceIte, reduceCtorEq, cl1_i, cl1_r, cl1_n, cl1_0, cl1_J, okS_0, okS_1, okS_2, okS_3, okS_4, bB_0, bB_and, z_0, z_1, z_10, bB_t, bB_f, Bool.true_eq_false, Bool.false_eq_true, gT0, gT1, gT2, gT3, gT4, gT5, gT6, gF0, gF1, gF2, gF3, gF4, gS0, gS1, gC0, gC1, iT, iF, iS, iC, sT6_0, sT6_1, sF2, sF3, sF4_0, sF4_1, sS1, sC1]
                    simp only [s62_121, s62_123, s62_123n, s62_124, s62_126, s62_127, Option.bind_some, Option.bind_none, Option.toList_some, Option.toList_none, List.nil_append, List.cons_append, ↓reduceIte, reduceCtorEq, cl1_i, cl1_r, cl1_n, cl1_0, cl1_J, okS_0, okS_1, okS_2, okS_3, okS_4, bB_0, bB_and, z_0, z_1, z_10, bB_t, bB_f, Bool.true_eq_false, Bool.false_eq_true, gT0, gT1, gT2, gT3, gT4, gT5, gT6, gF0, gF1, gF2, gF3, gF4, gS0, gS1, gC0, gC1, iT, iF, iS, iC, sT6_0, sT6_1, sF2, sF3, sF4_0, sF4_1, sS1, sC1, c73f]
                    simp only [s62_130, Option.bind_some, Option.bind_none, Option.toList_some, Option.toList_none, List.nil_append, List.cons_append, ↓reduceIte, reduceCtorEq, cl1_i, cl1_r, cl1_n, cl1_0, cl1_J, okS_0, okS_1, okS_2, okS_3, okS_4, bB_0, bB_and, z_0, z_1, z_10, bB_t, bB_f, Bool.true_eq_false, Bool.false_eq_true, gT0, gT1, gT2, gT3, gT4, gT5, gT6, gF0, gF1, gF2, gF3, gF4, gS0, gS1, gC0, gC1, iT, iF, iS, iC, sT6_0, sT6_1, sF2, sF3, sF4_0, sF4_1, sS1, sC1]
                  · simp only [s119_284, s119_287, s119_289, Option.bind_some, Option.bind_none, Option.toList_some, Option.toList_none, List.nil_append, List.cons_append, ↓reduceIte, reduceCtorEq, cl1_i, cl1_r, cl1_n, cl1_0, cl1_J, okS_0, okS_1, okS_2, okS_3, okS_4, bB_0, bB_and, z_0, z_1, z_10, bB_t, bB_f, Bool.true_eq_false, Bool.false_eq_true, gT0, gT1, gT2, gT3, gT4, gT5, gT6, gF0, gF1, gF2, gF3, gF4, gS0, gS1, gC0, gC1, iT, iF, iS, iC, sT6_0, sT6_1, sF2, sF3, sF4_0, sF4_1, sS1, sC1]
                | true =>
                  rw [hc2] at hcls hmod2
                  have hX2 := y1 hc2
                  have hd2 := dk4 hc2
                  have hA2 : LiA (upO Lo1 q (some (apS st (gnO en.1)))) (upL (upL li r l1) q l2) := hA1.up k2
                  have hts2 : upO Lo1 q (some (apS st (gnO en.1))) r = some (apS ts (acO q en b)) := by
                    rw [upO_ne _ _ (fun h => hqr h.symm), ← hL1, upO_self]
                  obtain ⟨l3, s3, k3, k4⟩ := c87c (sc := sc) (f := (cmq w1 q (gnO en.1) st).2) (s := s2) (c := opf (opf c.1 (encS (acO q en b))).1 (encS (gnO en.1))) (th := th) (be := be') (qu := qu') (mo := 1) (mm := hM (mS f true jl R O A)) hX2 hA2 hr hts2 (z1 := 13 + 6 * q) (y2 := nI k) (y4 := nI b) (y5 := nI en.1)
                  obtain ⟨u1, u2⟩ := hX2.cm hr hts2 (FitN _)
                  obtain ⟨dk5, dk6⟩ := cmq_dark (f := (cmq w1 q (gnO en.1) st).2) (q := r) (os := nmO) (st := apS ts (acO q en b)) hd2
                  obtain ⟨n1, n2, n3, n4, n5⟩ := finN g1 hts2
                  have hls1 : ∀ x, x ≠ r → (lsO Lo1 x).2 = (lsO Lo x).2 := fun x hx => by rw [← hL1, lsO_ne _ _ hx]
                  generalize hL2 : upO Lo1 q (some (apS st (gnO en.1))) = Lo2 at *
                  generalize hw2 : (cmq w1 q (gnO en.1) st).2 = w2 at *
                  generalize hts3 : apS ts (acO q en b) = ts3 at *
                  have hmod3 : ∀ (F : FlS) (s c : OpS) (th be qu : Nat → Int32) (mo : Int32) (li : Nat → LiS), ∃ R' O' A', RunM 119 [.ref 61, .int (nI q), .int (nI en.1), .int (nI r), .int (nI b)] (hp sc F s c th be qu mo li (hM (mS f (true) jl R O A))) = some (some (.int (if (cmq w2 r nmO ts3).1 = true then 0 else -9)), (hp sc F s c th be qu mo li (hM (mS ((cmq w2 r nmO ts3).2) ((cmq w2 r nmO ts3).1) (jA (cmq w2 r nmO ts3).1 jl) (R') (O') (A'))))) := by
                    intro F s c th be qu mo li
                    obtain ⟨R2, O2, A2, z5, z11, m3⟩ := hmod2 F s c th be qu mo li
                    rw [jA_t] at m3
                    obtain ⟨R3, A3, r8⟩ := c105q (sc := sc) (F := F) (s := s) (c := c) (th := th) (be := be) (qu := qu) (mo := mo) (li := li) (f := w2) (mt := true) (jl := jl) (R := R2) (A := A2) (j := O2.1) hd2 hX2 hr hts2 (FitN _) (by rw [encN]; decide)
                    rw [Bool.and_true, encN] at r8
                    refine ⟨R3, opf O2.1 [5], A3, m3.trans ?_⟩
                    simp only [s119_284, s119_290, s119_290n, s119_291, s119_292, s119_295, s119_295n, s119_296, Option.bind_some, Option.bind_none, Option.toList_some, Option.toList_none, List.nil_append, List.cons_append, ↓reduceIte, reduceCtorEq, cl1_i, cl1_r, cl1_n, cl1_0, cl1_J, okS_0, okS_1, okS_2, okS_3, okS_4, bB_0, bB_and, z_0, z_1, z_10, bB_t, bB_f, Bool.true_eq_false, Bool.false_eq_true, gT0, gT1, gT2, gT3, gT4, gT5, gT6, gF0, gF1, gF2, gF3, gF4, gS0, gS1, gC0, gC1, iT, iF, iS, iC, sT6_0, sT6_1, sF2, sF3, sF4_0, sF4_1, sS1, sC1, gM0, gM1, gM2, gM3, gM4, gM5, gM6, gM7, gM8, gM9, gM10, gM11, gM12, gM13, gM14, gM15, gM16, gM17, gM18, iM, sM5, sM6, sM11, sM12, sM13, sM14, sM18, sM2_0, sM2_1, sM3_0, sM3_1, sM4_0, sM4_1, mS_0, mS_1, mS_2, mS_3, mS_4, mS_5, mS_6, mS_7, mS_8, mS_9, mS_10, mS_11, mS_12, mS_13, mS_14, mS_15, mS_16, mS_17, mS_18, decide_true, decide_false, Bool.not_true, Bool.not_false, sM16r]
                    simp only [s119_297, s119_300, s119_300n, s119_301, s119_301n, s119_302, Option.bind_some, Option.bind_none, Option.toList_some, Option.toList_none, List.nil_append, List.cons_append, ↓reduceIte, reduceCtorEq, cl1_i, cl1_r, cl1_n, cl1_0, cl1_J, okS_0, okS_1, okS_2, okS_3, okS_4, bB_0, bB_and, z_0, z_1, z_10, bB_t, bB_f, Bool.true_eq_false, Bool.false_eq_true, gT0, gT1, gT2, gT3, gT4, gT5, gT6, gF0, gF1, gF2, gF3, gF4, gS0, gS1, gC0, gC1, iT, iF, iS, iC, sT6_0, sT6_1, sF2, sF3, sF4_0, sF4_1, sS1, sC1, gM0, gM1, gM2, gM3, gM4, gM5, gM6, gM7, gM8, gM9, gM10, gM11, gM12, gM13, gM14, gM15, gM16, gM17, gM18, iM, sM5, sM6, sM11, sM12, sM13, sM14, sM18, sM2_0, sM2_1, sM3_0, sM3_1, sM4_0, sM4_1, mS_0, mS_1, mS_2, mS_3, mS_4, mS_5, mS_6, mS_7, mS_8, mS_9, mS_10, mS_11, mS_12, mS_13, mS_14, mS_15, mS_16, mS_17, mS_18, decide_true, decide_false, Bool.not_true, Bool.not_false, sM16r, c107 (show ([] : List Int32).length < 32 by decide), List.nil_append]
                    simp only [s119_303, Option.bind_some, Option.bind_none, Option.toList_some, Option.toList_none, List.nil_append, List.cons_append, ↓reduceIte, reduceCtorEq, cl1_i, cl1_r, cl1_n, cl1_0, cl1_J, okS_0, okS_1, okS_2, okS_3, okS_4, bB_0, bB_and, z_0, z_1, z_10, bB_t, bB_f, Bool.true_eq_false, Bool.false_eq_true, gT0, gT1, gT2, gT3, gT4, gT5, gT6, gF0, gF1, gF2, gF3, gF4, gS0, gS1, gC0, gC1, iT, iF, iS, iC, sT6_0, sT6_1, sF2, sF3, sF4_0, sF4_1, sS1, sC1, gM0, gM1, gM2, gM3, gM4, gM5, gM6, gM7, gM8, gM9, gM10, gM11, gM12, gM13, gM14, gM15, gM16, gM17, gM18, iM, sM5, sM6, sM11, sM12, sM13, sM14, sM18, sM2_0, sM2_1, sM3_0, sM3_1, sM4_0, sM4_1, mS_0, mS_1, mS_2, mS_3, mS_4, mS_5, mS_6, mS_7, mS_8, mS_9, mS_10, mS_11, mS_12, mS_13, mS_14, mS_15, mS_16, mS_17, mS_18, decide_true, decide_false, Bool.not_true, Bool.not_false, sM16r, r8]
                    simp only [s119_306, s119_307, s119_310, Option.bind_some, Option.bind_none, Option.toList_some, Option.toList_none, List.nil_append, List.cons_append, ↓reduceIte, reduceCtorEq, cl1_i, cl1_r, cl1_n, cl1_0, cl1_J, okS_0, okS_1, okS_2, okS_3, okS_4, bB_0, bB_and, z_0, z_1, z_10, bB_t, bB_f, Bool.true_eq_false, Bool.false_eq_true, gT0, gT1, gT2, gT3, gT4, gT5, gT6, gF0, gF1, gF2, gF3, gF4, gS0, gS1, gC0, gC1, iT, iF, iS, iC, sT6_0, sT6_1, sF2, sF3, sF4_0, sF4_1, sS1, sC1, gM0, gM1, gM2, gM3, gM4, gM5, gM6, gM7, gM8, gM9, gM10, gM11, gM12, gM13, gM14, gM15, gM16, gM17, gM18, iM, sM5, sM6, sM11, sM12, sM13, sM14, sM18, sM2_0, sM2_1, sM3_0, sM3_1, sM4_0, sM4_1, mS_0, mS_1, mS_2, mS_3, mS_4, mS_5, mS_6, mS_7, mS_8, mS_9, mS_10, mS_11, mS_12, mS_13, mS_14, mS_15, mS_16, mS_17, mS_18, decide_true, decide_false, Bool.not_true, Bool.not_false, sM16r, c111]
                  rw [show bB true = 1 from rfl, k3] at hcls
                  cases hc3 : (cmq w2 r nmO ts3).1 with
                  | false =>
                    rw [hc3] at hcls hmod3
                    obtain ⟨R', O', A', m9⟩ := hmod3 (fB (cmq w2 r nmO ts3).2) s3 (opf (opf (opf c.1 (encS (acO q en b))).1 (encS (gnO en.1))).1 (encS nmO)) th be' qu' 0 (upL (upL (upL li r l1) q l2) r l3)
                    refine ⟨some (.int (-9)), (hp sc (fB ((cmq w2 r nmO ts3).2)) (s3) (opf (opf (opf c.1 (encS (acO q en b))).1 (encS (gnO en.1))).1 (encS nmO)) th (be') (qu') (bB (false)) (upL (upL (upL li r l1) q l2) r l3) (hM (mS f (true) jl R O A))), (hp sc (fB ((cmq w2 r nmO ts3).2)) (s3) (opf (opf (opf c.1 (encS (acO q en b))).1 (encS (gnO en.1))).1 (encS nmO)) th (be') (qu') (bB (false)) (upL (upL (upL li r l1) q l2) r l3) (hM (mS ((cmq w2 r nmO ts3).2) (false) (jA false jl) (R') (O') (A')))), hcls.trans ?_, m9, mkI (u2 hc3) g1 (fun h => by cases h)⟩
                    simp only [Option.bind_some, Option.bind_none, Option.toList_some, Option.toList_none, List.nil_append, List.cons_append, ↓reduceIte, reduceCtorEq, cl1_i, cl1_r, cl1_n, cl1_0, cl1_J, okS_0, okS_1, okS_2, okS_3, okS_4, bB_0, bB_and, z_0, z_1, z_10, bB_t, bB_f, Bool.true_eq_false, Bool.false_eq_true, gT0, gT1, gT2, gT3, gT4, gT5, gT6, gF0, gF1, gF2, gF3, gF4, gS0, gS1, gC0, gC1, iT, iF, iS, iC, sT6_0, sT6_1, sF2, sF3, sF4_0, sF4_1, sS1, sC1]
                    simp only [s62_121, s62_123, s62_123n, s62_124, s62_126, s62_127, Option.bind_some, Option.bind_none, Option.toList_some, Option.toList_none, List.nil_append, List.cons_append, ↓reduceIte, reduceCtorEq, cl1_i, cl1_r, cl1_n, cl1_0, cl1_J, okS_0, okS_1, okS_2, okS_3, okS_4, bB_0, bB_and, z_0, z_1, z_10, bB_t, bB_f, Bool.true_eq_false, Bool.false_eq_true, gT0, gT1, gT2, gT3, gT4, gT5, gT6, gF0, gF1, gF2, gF3, gF4, gS0, gS1, gC0, gC1, iT, iF, iS, iC, sT6_0, sT6_1, sF2, sF3, sF4_0, sF4_1, sS1, sC1, c73f]
                    simp only [s62_130, Option.bind_some, Option.bind_none, Option.toList_some, Option.toList_none, List.nil_append, List.cons_append, ↓reduceIte, reduceCtorEq, cl1_i, cl1_r, cl1_n, cl1_0, cl1_J, okS_0, okS_1, okS_2, okS_3, okS_4, bB_0, bB_and, z_0, z_1, z_10, bB_t, bB_f, Bool.true_eq_false, Bool.false_eq_true, gT0, gT1, gT2, gT3, gT4, gT5, gT6, gF0, gF1, gF2, gF3, gF4, gS0, gS1, gC0, gC1, iT, iF, iS, iC, sT6_0, sT6_1, sF2, sF3, sF4_0, sF4_1, sS1, sC1]
                  | true =>
                    rw [hc3] at hcls hmod3
                    have hX3 := u1 hc3
                    have hA3 : LiA (upO Lo2 r (some (apS ts3 nmO))) (upL (upL (upL li r l1) q l2) r l3) := hA2.up k4
                    obtain ⟨th', qu2, r9, r10⟩ := c73t (sc := sc) (F := fB (cmq w2 r nmO ts3).2) (s := s3) (c := opf (opf (opf c.1 (encS (acO q en b))).1 (encS (gnO en.1))).1 (encS nmO)) (th := th) (be := be') (qu := qu') (mo := 1) (mm := hM (mS f true jl R O A)) (v := 0) ⟨_, hX3⟩ hA3
                    obtain ⟨R', O', A', m9⟩ := hmod3 (fB (cmq w2 r nmO ts3).2) s3 (opf (opf (opf c.1 (encS (acO q en b))).1 (encS (gnO en.1))).1 (encS nmO)) th' be' qu2 1 (upL (upL (upL li r l1) q l2) r l3)
                    refine ⟨some (.int 0), (hp sc (fB ((cmq w2 r nmO ts3).2)) (s3) (opf (opf (opf c.1 (encS (acO q en b))).1 (encS (gnO en.1))).1 (encS nmO)) (th') (be') (qu2) (bB (true)) (upL (upL (upL li r l1) q l2) r l3) (hM (mS f (true) jl R O A))), (hp sc (fB ((cmq w2 r nmO ts3).2)) (s3) (opf (opf (opf c.1 (encS (acO q en b))).1 (encS (gnO en.1))).1 (encS nmO)) (th') (be') (qu2) (bB (true)) (upL (upL (upL li r l1) q l2) r l3) (hM (mS ((cmq w2 r nmO ts3).2) (true) (jA true jl) (R') (O') (A')))), hcls.trans ?_, m9, mkI hX3 n1 (fun _ => ⟨dk6 hc3, n5 0 (g4 0 (a3 0 h0)), fun x hx => ?_, hA3, r10⟩)⟩
                    · simp only [Option.bind_some, Option.bind_none, Option.toList_some, Option.toList_none, List.nil_append, List.cons_append, ↓reduceIte, reduceCtorEq, cl1_i, cl1_r, cl1_n, cl1_0, cl1_J, okS_0, okS_1, okS_2, okS_3, okS_4, bB_0, bB_and, z_0, z_1, z_10, bB_t, bB_f, Bool.true_eq_false, Bool.false_eq_true, gT0, gT1, gT2, gT3, gT4, gT5, gT6, gF0, gF1, gF2, gF3, gF4, gS0, gS1, gC0, gC1, iT, iF, iS, iC, sT6_0, sT6_1, sF2, sF3, sF4_0, sF4_1, sS1, sC1]
                      simp only [s62_121, s62_123, s62_123n, s62_124, s62_126, s62_127, Option.bind_some, Option.bind_none, Option.toList_some, Option.toList_none, List.nil_append, List.cons_append, ↓reduceIte, reduceCtorEq, cl1_i, cl1_r, cl1_n, cl1_0, cl1_J, okS_0, okS_1, okS_2, okS_3, okS_4, bB_0, bB_and, z_0, z_1, z_10, bB_t, bB_f, Bool.true_eq_false, Bool.false_eq_true, gT0, gT1, gT2, gT3, gT4, gT5, gT6, gF0, gF1, gF2, gF3, gF4, gS0, gS1, gC0, gC1, iT, iF, iS, iC, sT6_0, sT6_1, sF2, sF3, sF4_0, sF4_1, sS1, sC1, r9]
                      simp only [s62_130, Option.bind_some, Option.bind_none, Option.toList_some, Option.toList_none, List.nil_append, List.cons_append, ↓reduceIte, reduceCtorEq, cl1_i, cl1_r, cl1_n, cl1_0, cl1_J, okS_0, okS_1, okS_2, okS_3, okS_4, bB_0, bB_and, z_0, z_1, z_10, bB_t, bB_f, Bool.true_eq_false, Bool.false_eq_true, gT0, gT1, gT2, gT3, gT4, gT5, gT6, gF0, gF1, gF2, gF3, gF4, gS0, gS1, gC0, gC1, iT, iF, iS, iC, sT6_0, sT6_1, sF2, sF3, sF4_0, sF4_1, sS1, sC1]
                    · by_cases hxr : x = r
                      · subst hxr; exact n4
                      · rw [n3 x hxr, g3 x, hls1 x hxr]
                        exact hno x (a2 x (g2 x (n2 x hx)))
          · rw [if_neg hV] at e1
            obtain ⟨R2, z5, z11, m3⟩ := mod (fB f) s c th be' qu' 1 li
            rw [if_neg hV] at m3
            exact ⟨_, _, _, e1, m3, mkI (mt := true) hX hS hU⟩
end BRN
