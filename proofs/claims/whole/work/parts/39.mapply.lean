/-! ===== The reference: operations applied, logs read ===== -/
def adz (z : Bool) : Nat := match z with
  | false => 62
  | true => 68
def coz (z : Bool) (f : FB) (O : OpS) : Nat → Int32 := match z with
  | false => f.1
  | true => O.1
def boz (z : Bool) : Nat := match z with
  | false => 1024
  | true => 32
theorem boz_le (z : Bool) : boz z ≤ 1024 := by cases z <;> decide
section MA
variable {sc : AC} {F : FlS} {s c : OpS} {th be qu : Nat → Int32} {mo : Int32} {li : Nat → LiS} {f : FB} {mt : Bool} {jl : Int32} {R : RgS} {O A : OpS} {z : Bool}
theorem aZ {i : Int32} (hi : inB i (boz z) = true) : ald (hp sc F s c th be qu mo li (hM (mS f mt jl R O A))) (adz z) .int i = some (.int (coz z f O i.toNatClampNeg)) := by
  cases z with
  | false => exact a62 hi
  | true => exact a68 hi
theorem aZn {i : Nat} (hi : i < boz z) : ald (hp sc F s c th be qu mo li (hM (mS f mt jl R O A))) (adz z) .int (nI i) = some (.int (coz z f O i)) := by
  have := boz_le z
  rw [aZ (inB_nI hi (by omega)), nI_clamp (by omega)]
/-- the loop that puts a file's bytes together -/
theorem c100_val {p n : Nat} {xs : List Nat} (hx : ∀ x ∈ xs, x < 256) (hn : n = xs.length) (h6 : n ≤ 6) (hpz : p + 3 + n ≤ boz z) (hb : ∀ t, t < n → coz z f O (p + 3 + t) = nI (xs.getD t 0)) {a2 a3 a5 : Option Value} {y6 : Int32} : ∀ (m d : Nat), m + d = n → Run 100 48 [some (.ref 61), some (.ref (adz z)), a2, a3, some (.int (nI p)), a5, some (.int y6), some (.long (lN (uH xs n d))), none, some (.int (nI n)), some (.int (nI m - 1))] [] (hp sc F s c th be qu mo li (hM (mS f mt jl R O A))) = Run 100 77 [some (.ref 61), some (.ref (adz z)), a2, a3, some (.int (nI p)), a5, some (.int y6), some (.long (lN (uH xs n n))), none, some (.int (nI n)), some (.int (-1))] [] (hp sc F s c th be qu mo li (hM (mS f mt jl R O A))) := by
  have hbz := boz_le z
  intro m
  induction m with
  | zero =>
    intro d hd
    obtain rfl : d = n := by omega
    have e1 : nI 0 - 1 = -1 := by decide
    have h1 : (-1 : Int32) < 0 := by decide
    rw [e1]
    simp only [s100_48, s100_50, Option.bind_some, Option.bind_none, Option.toList_some, Option.toList_none, List.nil_append, List.cons_append, ↓reduceIte, reduceCtorEq, cl1_i, cl1_r, cl1_n, cl1_0, cl1_J, okS_0, okS_1, okS_2, okS_3, okS_4, bB_0, bB_and, z_0, z_1, z_10, bB_t, bB_f, Bool.true_eq_false, Bool.false_eq_true, gT0, gT1, gT2, gT3, gT4, gT5, gT6, gF0, gF1, gF2, gF3, gF4, gS0, gS1, gC0, gC1, iT, iF, iS, iC, sT6_0, sT6_1, sF2, sF3, sF4_0, sF4_1, sS1, sC1, h1]
  | succ m ih =>
    intro d hd
    rw [nI_pred]
    have h1 : ¬ nI m < 0 := nI_pos (by omega)
    have e3 : nI p + 3 = nI (p + 3) := nI_add p 3
    have e4 : nI m + -1 = nI m - 1 := by
      rw [Int32.sub_eq_add_neg]
    have hxm : xs.getD m 0 < 256 := by
      rw [List.getD_eq_getElem?_getD]
      cases hn : xs[m]? with
      | none => simp
      | some x => exact hx x (List.mem_of_getElem? hn)
    have hu := uH_lt hx n d
    have hu2 : uH xs n d * 256 + xs.getD m 0 < 2 ^ 64 := by
      have := uH_lt hx n (d + 1)
      have q1 : uH xs n (d + 1) = uH xs n d * 256 + xs.getD (n - 1 - d) 0 := rfl
      rw [q1, show n - 1 - d = m by omega] at this
      exact Nat.lt_of_lt_of_le this (Nat.pow_le_pow_right (by decide) (by omega))
    have q1 : uH xs n (d + 1) = uH xs n d * 256 + xs.getD m 0 := by
      show uH xs n d * 256 + xs.getD (n - 1 - d) 0 = _
      rw [show n - 1 - d = m by omega]
    rw [← ih (d + 1) (by omega), q1]
    rw [s100_48]
    simp only [s100_50, s100_53, s100_55, s100_57, s100_58, s100_58n, s100_59, s100_61, s100_62, s100_63, s100_65, s100_66, s100_67, s100_68, s100_69, s100_71, Option.bind_some, Option.bind_none, Option.toList_some, Option.toList_none, List.nil_append, List.cons_append, ↓reduceIte, reduceCtorEq, cl1_i, cl1_r, cl1_n, cl1_0, cl1_J, okS_0, okS_1, okS_2, okS_3, okS_4, bB_0, bB_and, z_0, z_1, z_10, bB_t, bB_f, Bool.true_eq_false, Bool.false_eq_true, gT0, gT1, gT2, gT3, gT4, gT5, gT6, gF0, gF1, gF2, gF3, gF4, gS0, gS1, gC0, gC1, iT, iF, iS, iC, sT6_0, sT6_1, sF2, sF3, sF4_0, sF4_1, sS1, sC1, h1, e3, nI_add, aZn (show p + 3 + m < boz z by omega), hb m (by omega), step8 hxm hu2, e4]
    simp only [s100_74, Option.bind_some, Option.bind_none, Option.toList_some, Option.toList_none, List.nil_append, List.cons_append, ↓reduceIte, reduceCtorEq, cl1_i, cl1_r, cl1_n, cl1_0, cl1_J, okS_0, okS_1, okS_2, okS_3, okS_4, bB_0, bB_and, z_0, z_1, z_10, bB_t, bB_f, Bool.true_eq_false, Bool.false_eq_true, gT0, gT1, gT2, gT3, gT4, gT5, gT6, gF0, gF1, gF2, gF3, gF4, gS0, gS1, gC0, gC1, iT, iF, iS, iC, sT6_0, sT6_1, sF2, sF3, sF4_0, sF4_1, sS1, sC1]
theorem sub_nI {a b : Nat} : nI a - nI b = nI a - nI b := rfl
theorem c100_loop {base to : Nat} {bs : List Int32} (hto : to = base + bs.length) (hbz : to ≤ boz z) (hb64 : bs.length ≤ 64) (hbs : ∀ t, t < bs.length → coz z f O (base + t) = bs.getD t 0) {a2 : Option Value} : ∀ (os : List Opn) (t : Nat) (pre : List Int32) (R : RgS) (st : Lst) (z6 z7 z8 z9 z10 : Option Value), bs = pre ++ encS os → t ≤ pre.length → MgR R st.1 st.2 → FitS st os → ∃ R', Run 100 6 [some (.ref 61), some (.ref (adz z)), a2, some (.int (nI to)), some (.int (nI (base + pre.length))), some (.int (nI t)), z6, z7, z8, z9, z10] [] (hp sc F s c th be qu mo li (hM (mS f mt jl R O A))) = some (none, (hp sc F s c th be qu mo li (hM (mS f mt jl (R') O A)))) ∧ MgR R' (apS st os).1 (apS st os).2 ∧ R'.2.2.2.2 = R.2.2.2.2 := by
  have hbl := boz_le z
  intro os
  induction os with
  | nil =>
    intro t pre R st z6 z7 z8 z9 z10 h1 h2 hL hF
    refine ⟨R, ?_, hL, rfl⟩
    have h3 : bs = pre := by simpa [encS] using h1
    subst h3
    have h5 : ¬ nI (base + bs.length) < nI to := nI_nlt (by omega) (by omega)
    by_cases ht : t < 64
    · have h4 : nI t < 64 := nI_lit (k := 64) ht (by decide)
      simp only [s100_6, s100_8, s100_10, s100_13, s100_15, s100_16, s100_214, Option.bind_some, Option.bind_none, Option.toList_some, Option.toList_none, List.nil_append, List.cons_append, ↓reduceIte, reduceCtorEq, cl1_i, cl1_r, cl1_n, cl1_0, cl1_J, okS_0, okS_1, okS_2, okS_3, okS_4, bB_0, bB_and, z_0, z_1, z_10, bB_t, bB_f, Bool.true_eq_false, Bool.false_eq_true, gT0, gT1, gT2, gT3, gT4, gT5, gT6, gF0, gF1, gF2, gF3, gF4, gS0, gS1, gC0, gC1, iT, iF, iS, iC, sT6_0, sT6_1, sF2, sF3, sF4_0, sF4_1, sS1, sC1, h4, h5]
    · have h4 : ¬ nI t < 64 := nI_nlt (b := 64) (by omega) (by omega)
      simp only [s100_6, s100_8, s100_10, s100_214, Option.bind_some, Option.bind_none, Option.toList_some, Option.toList_none, List.nil_append, List.cons_append, ↓reduceIte, reduceCtorEq, cl1_i, cl1_r, cl1_n, cl1_0, cl1_J, okS_0, okS_1, okS_2, okS_3, okS_4, bB_0, bB_and, z_0, z_1, z_10, bB_t, bB_f, Bool.true_eq_false, Bool.false_eq_true, gT0, gT1, gT2, gT3, gT4, gT5, gT6, gF0, gF1, gF2, gF3, gF4, gS0, gS1, gC0, gC1, iT, iF, iS, iC, sT6_0, sT6_1, sF2, sF3, sF4_0, sF4_1, sS1, sC1, h4]
  | cons op os ih =>
    intro t pre R st z6 z7 z8 z9 z10 h1 h2 hL hF
    obtain ⟨⟨f1, f2⟩, f3⟩ := hF
    have hlen : pre.length + (encO op).length + (encS os).length = bs.length := by
      rw [h1]
      simp [encS]
      omega
    have hpos := encO_pos op
    have hat : ∀ i, i < (encO op).length → coz z f O (base + pre.length + i) = (encO op).getD i 0 := fun i hi => by
      rw [show base + pre.length + i = base + (pre.length + i) by omega, hbs _ (by omega), h1]
      exact getD_drop (p := pre.length) (rest := encS os) (by rw [List.drop_left]; simp [encS]) hi
    have next : ∀ (R1 : RgS) (y6 y7 y8 y9 y10 : Option Value), MgR R1 (apO st op).1 (apO st op).2 → R1.2.2.2.2 = R.2.2.2.2 → ∃ R', Run 100 208 [some (.ref 61), some (.ref (adz z)), a2, some (.int (nI to)), some (.int (nI (base + pre.length + (encO op).length))), some (.int (nI t)), y6, y7, y8, y9, y10] [] (hp sc F s c th be qu mo li (hM (mS f mt jl (R1) O A))) = some (none, (hp sc F s c th be qu mo li (hM (mS f mt jl (R') O A)))) ∧ MgR R' (apS st (op :: os)).1 (apS st (op :: os)).2 ∧ R'.2.2.2.2 = R.2.2.2.2 := by
      intro R1 y6 y7 y8 y9 y10 hL1 hE
      obtain ⟨R', r1, r2, r3⟩ := ih (t + 1) (pre ++ encO op) R1 (apO st op) y6 y7 y8 y9 y10 (by rw [h1]; simp [encS]) (by simp; omega) hL1 f3
      refine ⟨R', ?_, r2, r3.trans hE⟩
      rw [← r1, List.length_append, ← Nat.add_assoc]
      simp only [s100_208, s100_211, Option.bind_some, Option.bind_none, Option.toList_some, Option.toList_none, List.nil_append, List.cons_append, ↓reduceIte, reduceCtorEq, cl1_i, cl1_r, cl1_n, cl1_0, cl1_J, okS_0, okS_1, okS_2, okS_3, okS_4, bB_0, bB_and, z_0, z_1, z_10, bB_t, bB_f, Bool.true_eq_false, Bool.false_eq_true, gT0, gT1, gT2, gT3, gT4, gT5, gT6, gF0, gF1, gF2, gF3, gF4, gS0, gS1, gC0, gC1, iT, iF, iS, iC, sT6_0, sT6_1, sF2, sF3, sF4_0, sF4_1, sS1, sC1, nI_1]
    have h4 : nI t < 64 := nI_lit (k := 64) (by omega) (by decide)
    have h5 : nI (base + pre.length) < nI to := nI_lt (by omega) (by omega)
    generalize hP : base + pre.length = P at hat next h5 ⊢
    have hPz : P + (encO op).length ≤ boz z := by omega
    have e1 : nI P + 1 = nI (P + 1) := nI_1 P
    have e2 : nI P + 2 = nI (P + 2) := nI_add P 2
    have e3 : nI P + 3 = nI (P + 3) := nI_add P 3
    have h0 := hat 0 hpos
    rw [Nat.add_zero] at h0
    have start : ∀ k : Int32, (encO op).getD 0 0 = k → Run 100 6 [some (.ref 61), some (.ref (adz z)), a2, some (.int (nI to)), some (.int (nI P)), some (.int (nI t)), z6, z7, z8, z9, z10] [] (hp sc F s c th be qu mo li (hM (mS f mt jl R O A))) = Run 100 25 [some (.ref 61), some (.ref (adz z)), a2, some (.int (nI to)), some (.int (nI P)), some (.int (nI t)), some (.int k), z7, z8, z9, z10] [] (hp sc F s c th be qu mo li (hM (mS f mt jl R O A))) := by
      intro k hk
      simp only [s100_6, s100_8, s100_10, s100_13, s100_15, s100_16, s100_19, s100_19n, s100_20, s100_22, s100_23, Option.bind_some, Option.bind_none, Option.toList_some, Option.toList_none, List.nil_append, List.cons_append, ↓reduceIte, reduceCtorEq, cl1_i, cl1_r, cl1_n, cl1_0, cl1_J, okS_0, okS_1, okS_2, okS_3, okS_4, bB_0, bB_and, z_0, z_1, z_10, bB_t, bB_f, Bool.true_eq_false, Bool.false_eq_true, gT0, gT1, gT2, gT3, gT4, gT5, gT6, gF0, gF1, gF2, gF3, gF4, gS0, gS1, gC0, gC1, iT, iF, iS, iC, sT6_0, sT6_1, sF2, sF3, sF4_0, sF4_1, sS1, sC1, h4, h5, aZn (show P < boz z by omega), h0, hk]
    obtain ⟨k, a, b, xs⟩ := op
    rcases f1 with ⟨hk, g1, g2, g3, g4⟩ | ⟨hk, g1, g2, g3⟩ | ⟨hk, g2⟩ | ⟨hk, g1, g2, g3⟩ | hk
    · dsimp only at hk g1 g2 g3 g4
      subst hk
      have hl : (encO (1, a, b, xs)).length = 3 + xs.length := by simp [encO]; omega
      rw [hl] at hPz next
      have v1 : coz z f O (P + 1) = nI a := hat 1 (by omega)
      have v2 : coz z f O (P + 2) = nI xs.length := hat 2 (by omega)
      have v3 : ∀ i, i < xs.length → coz z f O (P + 3 + i) = nI (xs.getD i 0) := fun i hi => by
        rw [show P + 3 + i = P + (3 + i) by omega, hat (3 + i) (by omega)]
        simp only [encO, List.getD_eq_getElem?_getD]
        rw [show 3 + i = i + 1 + 1 + 1 by omega, List.getElem?_cons_succ, List.getElem?_cons_succ, List.getElem?_cons_succ, List.getElem?_map, List.getElem?_eq_getElem hi]
        rfl
      obtain ⟨R1, r1, r2, r3⟩ := c98 (sc := sc) (F := F) (s := s) (c := c) (th := th) (be := be) (qu := qu) (mo := mo) (li := li) (f := f) (mt := mt) (jl := jl) (O := O) (A := A) hL (e := (a, 1, xs.length, vB xs)) ⟨g1, g2, Or.inl ⟨rfl, g3⟩⟩ (f2 (Or.inl rfl))
      obtain ⟨R', r4, r5, r6⟩ := next R1 (some (.int 1)) (some (.long (lN (uH xs xs.length xs.length)))) none (some (.int (nI xs.length))) (some (.int (-1))) r2 r3
      refine ⟨R', ?_, r5, r6⟩
      rw [start 1 rfl, ← r4]
      have hv := c100_val (sc := sc) (F := F) (s := s) (c := c) (th := th) (be := be) (qu := qu) (mo := mo) (li := li) (f := f) (mt := mt) (jl := jl) (R := R) (O := O) (A := A) (z := z) (p := P) g4 rfl g3 (by omega) v3 (a2 := a2) (a3 := some (.int (nI to))) (a5 := some (.int (nI t))) (y6 := 1) xs.length 0 (by omega)
      have hz : lN (uH xs xs.length 0) = 0 := rfl
      rw [hz] at hv
      simp only [s100_25, s100_27, s100_28, s100_31, s100_32, s100_34, s100_34n, s100_35, s100_37, s100_38, s100_39, s100_40, s100_42, s100_44, s100_45, s100_46, Option.bind_some, Option.bind_none, Option.toList_some, Option.toList_none, List.nil_append, List.cons_append, ↓reduceIte, reduceCtorEq, cl1_i, cl1_r, cl1_n, cl1_0, cl1_J, okS_0, okS_1, okS_2, okS_3, okS_4, bB_0, bB_and, z_0, z_1, z_10, bB_t, bB_f, Bool.true_eq_false, Bool.false_eq_true, gT0, gT1, gT2, gT3, gT4, gT5, gT6, gF0, gF1, gF2, gF3, gF4, gS0, gS1, gC0, gC1, iT, iF, iS, iC, sT6_0, sT6_1, sF2, sF3, sF4_0, sF4_1, sS1, sC1, e2, aZn (show P + 2 < boz z by omega), v2]
      rw [hv]
      have hvb : lN (uH xs xs.length xs.length) = vB xs := by rw [uH_all, vB_eq g4 g3]
      have q1 : nI (a, 1, xs.length, vB xs).2.1 = 1 := rfl
      have r1' : RunM 98 [.ref 61, .int (nI a), .int 1, .int (nI xs.length), .long (lN (uH xs xs.length xs.length))] (hp sc F s c th be qu mo li (hM (mS f mt jl R O A))) = some (none, (hp sc F s c th be qu mo li (hM (mS f mt jl (R1) O A)))) := by rw [hvb]; exact r1
      simp only [s100_77, s100_77n, s100_78, s100_78n, s100_79, s100_81, s100_82, s100_83, s100_84, s100_85, s100_87, s100_89, Option.bind_some, Option.bind_none, Option.toList_some, Option.toList_none, List.nil_append, List.cons_append, ↓reduceIte, reduceCtorEq, cl1_i, cl1_r, cl1_n, cl1_0, cl1_J, okS_0, okS_1, okS_2, okS_3, okS_4, bB_0, bB_and, z_0, z_1, z_10, bB_t, bB_f, Bool.true_eq_false, Bool.false_eq_true, gT0, gT1, gT2, gT3, gT4, gT5, gT6, gF0, gF1, gF2, gF3, gF4, gS0, gS1, gC0, gC1, iT, iF, iS, iC, sT6_0, sT6_1, sF2, sF3, sF4_0, sF4_1, sS1, sC1, gM0, gM1, gM2, gM3, gM4, gM5, gM6, gM7, gM8, gM9, gM10, gM11, gM12, gM13, gM14, gM15, gM16, gM17, gM18, iM, sM5, sM6, sM11, sM12, sM13, sM14, sM16, sM18, sM2_0, sM2_1, sM3_0, sM3_1, sM4_0, sM4_1, mS_0, mS_1, mS_2, mS_3, mS_4, mS_5, mS_6, mS_7, mS_8, mS_9, mS_10, mS_11, mS_12, mS_13, mS_14, mS_15, mS_16, mS_17, mS_18, decide_true, decide_false, Bool.not_true, Bool.not_false, e1, aZn (show P + 1 < boz z by omega), v1, r1']
      simp only [s100_92, s100_94, s100_95, s100_96, s100_98, s100_99, s100_101, Option.bind_some, Option.bind_none, Option.toList_some, Option.toList_none, List.nil_append, List.cons_append, ↓reduceIte, reduceCtorEq, cl1_i, cl1_r, cl1_n, cl1_0, cl1_J, okS_0, okS_1, okS_2, okS_3, okS_4, bB_0, bB_and, z_0, z_1, z_10, bB_t, bB_f, Bool.true_eq_false, Bool.false_eq_true, gT0, gT1, gT2, gT3, gT4, gT5, gT6, gF0, gF1, gF2, gF3, gF4, gS0, gS1, gC0, gC1, iT, iF, iS, iC, sT6_0, sT6_1, sF2, sF3, sF4_0, sF4_1, sS1, sC1, e3, nI_add]
      rw [show P + (3 + xs.length) = P + 3 + xs.length by omega]
    · dsimp only at hk g1 g2 g3
      subst hk
      have hl : (encO (2, a, b, xs)).length = 3 := rfl
      rw [hl] at hPz next
      have v1 : coz z f O (P + 1) = nI a := hat 1 (by rw [hl]; decide)
      have v2 : coz z f O (P + 2) = nI b := hat 2 (by rw [hl]; decide)
      obtain ⟨R1, r1, r2, r3⟩ := c98 (sc := sc) (F := F) (s := s) (c := c) (th := th) (be := be) (qu := qu) (mo := mo) (li := li) (f := f) (mt := mt) (jl := jl) (O := O) (A := A) hL (e := (a, 2, b, 0)) ⟨g1, g2, Or.inr ⟨rfl, g3, rfl⟩⟩ (f2 (Or.inr rfl))
      obtain ⟨R', r4, r5, r6⟩ := next R1 (some (.int 2)) z7 z8 z9 z10 r2 r3
      refine ⟨R', ?_, r5, r6⟩
      rw [start 2 rfl, ← r4]
      have n1 : ¬ (2 : Int32) = 1 := by decide
      have r1' : RunM 98 [.ref 61, .int (nI a), .int 2, .int (nI b), .long 0] (hp sc F s c th be qu mo li (hM (mS f mt jl R O A))) = _ := r1
      simp only [s100_25, s100_27, s100_28, s100_104, s100_106, s100_107, s100_110, s100_110n, s100_111, s100_111n, s100_112, s100_114, s100_115, s100_116, s100_117, s100_118, s100_118n, s100_119, s100_121, s100_122, s100_123, s100_124, s100_125, Option.bind_some, Option.bind_none, Option.toList_some, Option.toList_none, List.nil_append, List.cons_append, ↓reduceIte, reduceCtorEq, cl1_i, cl1_r, cl1_n, cl1_0, cl1_J, okS_0, okS_1, okS_2, okS_3, okS_4, bB_0, bB_and, z_0, z_1, z_10, bB_t, bB_f, Bool.true_eq_false, Bool.false_eq_true, gT0, gT1, gT2, gT3, gT4, gT5, gT6, gF0, gF1, gF2, gF3, gF4, gS0, gS1, gC0, gC1, iT, iF, iS, iC, sT6_0, sT6_1, sF2, sF3, sF4_0, sF4_1, sS1, sC1, gM0, gM1, gM2, gM3, gM4, gM5, gM6, gM7, gM8, gM9, gM10, gM11, gM12, gM13, gM14, gM15, gM16, gM17, gM18, iM, sM5, sM6, sM11, sM12, sM13, sM14, sM16, sM18, sM2_0, sM2_1, sM3_0, sM3_1, sM4_0, sM4_1, mS_0, mS_1, mS_2, mS_3, mS_4, mS_5, mS_6, mS_7, mS_8, mS_9, mS_10, mS_11, mS_12, mS_13, mS_14, mS_15, mS_16, mS_17, mS_18, decide_true, decide_false, Bool.not_true, Bool.not_false, n1, e1, e2, aZn (show P + 1 < boz z by omega), v1, aZn (show P + 2 < boz z by omega), v2, r1']
      simp only [s100_128, s100_130, s100_131, s100_132, s100_134, Option.bind_some, Option.bind_none, Option.toList_some, Option.toList_none, List.nil_append, List.cons_append, ↓reduceIte, reduceCtorEq, cl1_i, cl1_r, cl1_n, cl1_0, cl1_J, okS_0, okS_1, okS_2, okS_3, okS_4, bB_0, bB_and, z_0, z_1, z_10, bB_t, bB_f, Bool.true_eq_false, Bool.false_eq_true, gT0, gT1, gT2, gT3, gT4, gT5, gT6, gF0, gF1, gF2, gF3, gF4, gS0, gS1, gC0, gC1, iT, iF, iS, iC, sT6_0, sT6_1, sF2, sF3, sF4_0, sF4_1, sS1, sC1, e3]
    · dsimp only at hk g2
      subst hk
      have hl : (encO (3, a, b, xs)).length = 2 := rfl
      rw [hl] at hPz next
      have v1 : coz z f O (P + 1) = nI a := hat 1 (by rw [hl]; decide)
      obtain ⟨R1, r1, r2, r3⟩ := c99 (sc := sc) (F := F) (s := s) (c := c) (th := th) (be := be) (qu := qu) (mo := mo) (li := li) (f := f) (mt := mt) (jl := jl) (O := O) (A := A) hL (a := a)
      obtain ⟨R', r4, r5, r6⟩ := next R1 (some (.int 3)) z7 z8 z9 z10 r2 r3
      refine ⟨R', ?_, r5, r6⟩
      rw [start 3 rfl, ← r4]
      have n1 : ¬ (3 : Int32) = 1 := by decide
      have n2 : ¬ (3 : Int32) = 2 := by decide
      simp only [s100_25, s100_27, s100_28, s100_104, s100_106, s100_107, s100_137, s100_139, s100_140, s100_143, s100_143n, s100_144, s100_144n, s100_145, s100_147, s100_148, s100_149, s100_150, Option.bind_some, Option.bind_none, Option.toList_some, Option.toList_none, List.nil_append, List.cons_append, ↓reduceIte, reduceCtorEq, cl1_i, cl1_r, cl1_n, cl1_0, cl1_J, okS_0, okS_1, okS_2, okS_3, okS_4, bB_0, bB_and, z_0, z_1, z_10, bB_t, bB_f, Bool.true_eq_false, Bool.false_eq_true, gT0, gT1, gT2, gT3, gT4, gT5, gT6, gF0, gF1, gF2, gF3, gF4, gS0, gS1, gC0, gC1, iT, iF, iS, iC, sT6_0, sT6_1, sF2, sF3, sF4_0, sF4_1, sS1, sC1, gM0, gM1, gM2, gM3, gM4, gM5, gM6, gM7, gM8, gM9, gM10, gM11, gM12, gM13, gM14, gM15, gM16, gM17, gM18, iM, sM5, sM6, sM11, sM12, sM13, sM14, sM16, sM18, sM2_0, sM2_1, sM3_0, sM3_1, sM4_0, sM4_1, mS_0, mS_1, mS_2, mS_3, mS_4, mS_5, mS_6, mS_7, mS_8, mS_9, mS_10, mS_11, mS_12, mS_13, mS_14, mS_15, mS_16, mS_17, mS_18, decide_true, decide_false, Bool.not_true, Bool.not_false, n1, n2, e1, aZn (show P + 1 < boz z by omega), v1, r1]
      simp only [s100_153, s100_155, s100_156, s100_157, s100_159, Option.bind_some, Option.bind_none, Option.toList_some, Option.toList_none, List.nil_append, List.cons_append, ↓reduceIte, reduceCtorEq, cl1_i, cl1_r, cl1_n, cl1_0, cl1_J, okS_0, okS_1, okS_2, okS_3, okS_4, bB_0, bB_and, z_0, z_1, z_10, bB_t, bB_f, Bool.true_eq_false, Bool.false_eq_true, gT0, gT1, gT2, gT3, gT4, gT5, gT6, gF0, gF1, gF2, gF3, gF4, gS0, gS1, gC0, gC1, iT, iF, iS, iC, sT6_0, sT6_1, sF2, sF3, sF4_0, sF4_1, sS1, sC1, e2]
    · dsimp only at hk g1 g2 g3
      subst hk
      have hl : (encO (4, a, b, xs)).length = 3 := rfl
      rw [hl] at hPz next
      have v1 : coz z f O (P + 1) = nI a := hat 1 (by rw [hl]; decide)
      have v2 : coz z f O (P + 2) = nI b := hat 2 (by rw [hl]; decide)
      obtain ⟨R', r4, r5, r6⟩ := next (R.1, (R.2.1, nI a, nI b, R.2.2.2.2)) (some (.int 4)) z7 z8 z9 z10 ⟨hL.1, hL.2.1, hL.2.2.1, rfl, rfl⟩ rfl
      refine ⟨R', ?_, r5, r6⟩
      rw [start 4 rfl, ← r4]
      have n1 : ¬ (4 : Int32) = 1 := by decide
      have n2 : ¬ (4 : Int32) = 2 := by decide
      have n3 : ¬ (4 : Int32) = 3 := by decide
      have w1 : ald (hp sc F s c th be qu mo li (hM (mS f mt jl (R.1, (R.2.1, nI a, R.2.2.2)) O A))) (adz z) .int (nI (P + 2)) = some (.int (nI b)) := by rw [aZn (show P + 2 < boz z by omega), v2]
      simp only [s100_25, s100_27, s100_28, s100_104, s100_106, s100_107, s100_137, s100_139, s100_140, s100_162, s100_164, s100_165, s100_168, s100_168n, s100_169, s100_169n, s100_170, s100_172, s100_173, s100_174, s100_175, Option.bind_some, Option.bind_none, Option.toList_some, Option.toList_none, List.nil_append, List.cons_append, ↓reduceIte, reduceCtorEq, cl1_i, cl1_r, cl1_n, cl1_0, cl1_J, okS_0, okS_1, okS_2, okS_3, okS_4, bB_0, bB_and, z_0, z_1, z_10, bB_t, bB_f, Bool.true_eq_false, Bool.false_eq_true, gT0, gT1, gT2, gT3, gT4, gT5, gT6, gF0, gF1, gF2, gF3, gF4, gS0, gS1, gC0, gC1, iT, iF, iS, iC, sT6_0, sT6_1, sF2, sF3, sF4_0, sF4_1, sS1, sC1, gM0, gM1, gM2, gM3, gM4, gM5, gM6, gM7, gM8, gM9, gM10, gM11, gM12, gM13, gM14, gM15, gM16, gM17, gM18, iM, sM5, sM6, sM11, sM12, sM13, sM14, sM16, sM18, sM2_0, sM2_1, sM3_0, sM3_1, sM4_0, sM4_1, mS_0, mS_1, mS_2, mS_3, mS_4, mS_5, mS_6, mS_7, mS_8, mS_9, mS_10, mS_11, mS_12, mS_13, mS_14, mS_15, mS_16, mS_17, mS_18, decide_true, decide_false, Bool.not_true, Bool.not_false, n1, n2, n3, e1, aZn (show P + 1 < boz z by omega), v1]
      change Run 100 178 _ [] (hp sc F s c th be qu mo li (hM (mS f mt jl (R.1, (R.2.1, nI a, R.2.2.2)) O A))) = _
      simp only [s100_178, s100_178n, s100_179, s100_179n, s100_180, s100_182, s100_183, s100_184, s100_185, s100_188, s100_190, s100_191, s100_192, s100_194, Option.bind_some, Option.bind_none, Option.toList_some, Option.toList_none, List.nil_append, List.cons_append, ↓reduceIte, reduceCtorEq, cl1_i, cl1_r, cl1_n, cl1_0, cl1_J, okS_0, okS_1, okS_2, okS_3, okS_4, bB_0, bB_and, z_0, z_1, z_10, bB_t, bB_f, Bool.true_eq_false, Bool.false_eq_true, gT0, gT1, gT2, gT3, gT4, gT5, gT6, gF0, gF1, gF2, gF3, gF4, gS0, gS1, gC0, gC1, iT, iF, iS, iC, sT6_0, sT6_1, sF2, sF3, sF4_0, sF4_1, sS1, sC1, gM0, gM1, gM2, gM3, gM4, gM5, gM6, gM7, gM8, gM9, gM10, gM11, gM12, gM13, gM14, gM15, gM16, gM17, gM18, iM, sM5, sM6, sM11, sM12, sM13, sM14, sM16, sM18, sM2_0, sM2_1, sM3_0, sM3_1, sM4_0, sM4_1, mS_0, mS_1, mS_2, mS_3, mS_4, mS_5, mS_6, mS_7, mS_8, mS_9, mS_10, mS_11, mS_12, mS_13, mS_14, mS_15, mS_16, mS_17, mS_18, decide_true, decide_false, Bool.not_true, Bool.not_false, e2, w1, e3]
      rfl
    · dsimp only at hk
      subst hk
      have hl : (encO (5, a, b, xs)).length = 1 := rfl
      rw [hl] at hPz next
      obtain ⟨R', r4, r5, r6⟩ := next (R.1, (R.2.1, R.2.2.1, 0, R.2.2.2.2)) (some (.int 5)) z7 z8 z9 z10 ⟨hL.1, hL.2.1, hL.2.2.1, rfl⟩ rfl
      refine ⟨R', ?_, r5, r6⟩
      rw [start 5 rfl, ← r4]
      have n1 : ¬ (5 : Int32) = 1 := by decide
      have n2 : ¬ (5 : Int32) = 2 := by decide
      have n3 : ¬ (5 : Int32) = 3 := by decide
      have n4 : ¬ (5 : Int32) = 4 := by decide
      simp only [s100_25, s100_27, s100_28, s100_104, s100_106, s100_107, s100_137, s100_139, s100_140, s100_162, s100_164, s100_165, s100_197, s100_197n, s100_198, s100_199, s100_202, s100_204, s100_205, s100_206, Option.bind_some, Option.bind_none, Option.toList_some, Option.toList_none, List.nil_append, List.cons_append, ↓reduceIte, reduceCtorEq, cl1_i, cl1_r, cl1_n, cl1_0, cl1_J, okS_0, okS_1, okS_2, okS_3, okS_4, bB_0, bB_and, z_0, z_1, z_10, bB_t, bB_f, Bool.true_eq_false, Bool.false_eq_true, gT0, gT1, gT2, gT3, gT4, gT5, gT6, gF0, gF1, gF2, gF3, gF4, gS0, gS1, gC0, gC1, iT, iF, iS, iC, sT6_0, sT6_1, sF2, sF3, sF4_0, sF4_1, sS1, sC1, gM0, gM1, gM2, gM3, gM4, gM5, gM6, gM7, gM8, gM9, gM10, gM11, gM12, gM13, gM14, gM15, gM16, gM17, gM18, iM, sM5, sM6, sM11, sM12, sM13, sM14, sM16, sM18, sM2_0, sM2_1, sM3_0, sM3_1, sM4_0, sM4_1, mS_0, mS_1, mS_2, mS_3, mS_4, mS_5, mS_6, mS_7, mS_8, mS_9, mS_10, mS_11, mS_12, mS_13, mS_14, mS_15, mS_16, mS_17, mS_18, decide_true, decide_false, Bool.not_true, Bool.not_false, n1, n2, n3, n4, e1]
      rfl
end MA
section MB
variable {sc : AC} {F : FlS} {s c : OpS} {th be qu : Nat → Int32} {mo : Int32} {li : Nat → LiS} {f : FB} {mt : Bool} {jl : Int32} {R : RgS} {O A : OpS} {z : Bool}
theorem c100 {base : Nat} {os : List Opn} (hbz : base + (encS os).length ≤ boz z) (hb64 : (encS os).length ≤ 64) (hbs : ∀ t, t < (encS os).length → coz z f O (base + t) = (encS os).getD t 0) {st : Lst} (hL : MgR R st.1 st.2) (hF : FitS st os) : ∃ R', RunM 100 [.ref 61, .ref (adz z), .int (nI base), .int (nI (base + (encS os).length))] (hp sc F s c th be qu mo li (hM (mS f mt jl R O A))) = some (none, (hp sc F s c th be qu mo li (hM (mS f mt jl (R') O A)))) ∧ MgR R' (apS st os).1 (apS st os).2 ∧ R'.2.2.2.2 = R.2.2.2.2 := by
  obtain ⟨R', r1, r2, r3⟩ := c100_loop (sc := sc) (F := F) (s := s) (c := c) (th := th) (be := be) (qu := qu) (mo := mo) (li := li) (f := f) (mt := mt) (jl := jl) (O := O) (A := A) (z := z) (base := base) (bs := encS os) rfl hbz hb64 hbs (a2 := some (.int (nI base))) os 0 [] R st none none none none none rfl (Nat.le_refl _) hL hF
  refine ⟨R', ?_, r2, r3⟩
  rw [← r1]
  simp only [e100, s100_0, s100_1, s100_3, s100_4, Option.bind_some, Option.bind_none, Option.toList_some, Option.toList_none, List.nil_append, List.cons_append, ↓reduceIte, reduceCtorEq, cl1_i, cl1_r, cl1_n, cl1_0, cl1_J, okS_0, okS_1, okS_2, okS_3, okS_4, bB_0, bB_and, z_0, z_1, z_10, bB_t, bB_f, Bool.true_eq_false, Bool.false_eq_true, gT0, gT1, gT2, gT3, gT4, gT5, gT6, gF0, gF1, gF2, gF3, gF4, gS0, gS1, gC0, gC1, iT, iF, iS, iC, sT6_0, sT6_1, sF2, sF3, sF4_0, sF4_1, sS1, sC1, List.length_nil, Nat.add_zero]
  rw [nI_0]
/-- reading a log -/
theorem c101_loop (hB : BOk f) {b : Nat} (hb : b < 16) {y : Int32} : ∀ (rs : List (List Opn)) (e t : Nat) (R : RgS) (st : Lst) (z5 z6 : Option Value), e ≤ 64 → 2 * t ≤ e → LgR f b e rs → MgR R st.1 st.2 → R.2.2.2.2 = nI e → FitS st rs.flatten → ∃ R', Run 101 34 [some (.ref 61), some (.int y), some (.int (nI b)), some (.int 1), some (.int (nI t)), z5, z6] [] (hp sc F s c th be qu mo li (hM (mS f mt jl R O A))) = some (some (.int (nI b)), (hp sc F s c th be qu mo li (hM (mS f mt jl (R') O A)))) ∧ MgR R' (apS st rs.flatten).1 (apS st rs.flatten).2 ∧ R'.2.2.2.2 = nI (lgE e rs) := by
  intro rs
  induction rs with
  | nil =>
    intro e t R st z5 z6 he ht hG hL hE hF
    have hn : nx f b e = none := hG
    refine ⟨R, ?_, hL, hE⟩
    have h3 : nI t < 64 := nI_lit (k := 64) (by omega) (by decide)
    -- behind the last record: more becomes 0, one more turn ends it
    have fin2 : ∀ (y5 y6 : Option Value), Run 101 115 [some (.ref 61), some (.int y), some (.int (nI b)), some (.int 0), some (.int (nI t)), y5, y6] [] (hp sc F s c th be qu mo li (hM (mS f mt jl R O A))) = some (some (.int (nI b)), (hp sc F s c th be qu mo li (hM (mS f mt jl R O A)))) := by
      intro y5 y6
      by_cases h4 : t + 1 < 64
      · have h5 : nI (t + 1) < 64 := nI_lit (k := 64) h4 (by decide)
        simp only [s101_115, s101_116, s101_153, s101_156, s101_34, s101_36, s101_38, s101_41, s101_42, s101_159, s101_160, Option.bind_some, Option.bind_none, Option.toList_some, Option.toList_none, List.nil_append, List.cons_append, ↓reduceIte, reduceCtorEq, cl1_i, cl1_r, cl1_n, cl1_0, cl1_J, okS_0, okS_1, okS_2, okS_3, okS_4, bB_0, bB_and, z_0, z_1, z_10, bB_t, bB_f, Bool.true_eq_false, Bool.false_eq_true, gT0, gT1, gT2, gT3, gT4, gT5, gT6, gF0, gF1, gF2, gF3, gF4, gS0, gS1, gC0, gC1, iT, iF, iS, iC, sT6_0, sT6_1, sF2, sF3, sF4_0, sF4_1, sS1, sC1, nI_1, h5]
      · have h5 : ¬ nI (t + 1) < 64 := nI_nlt (b := 64) (by omega) (by omega)
        simp only [s101_115, s101_116, s101_153, s101_156, s101_34, s101_36, s101_38, s101_41, s101_42, s101_159, s101_160, Option.bind_some, Option.bind_none, Option.toList_some, Option.toList_none, List.nil_append, List.cons_append, ↓reduceIte, reduceCtorEq, cl1_i, cl1_r, cl1_n, cl1_0, cl1_J, okS_0, okS_1, okS_2, okS_3, okS_4, bB_0, bB_and, z_0, z_1, z_10, bB_t, bB_f, Bool.true_eq_false, Bool.false_eq_true, gT0, gT1, gT2, gT3, gT4, gT5, gT6, gF0, gF1, gF2, gF3, gF4, gS0, gS1, gC0, gC1, iT, iF, iS, iC, sT6_0, sT6_1, sF2, sF3, sF4_0, sF4_1, sS1, sC1, nI_1, h5]
    by_cases h1 : e < 64
    · have hg := hB (b * 64 + e) (by omega)
      have h4 : nI e < 64 := nI_lit (k := 64) h1 (by decide)
      have e1 : nI e + 1 + nI (gB f (b * 64 + e)) = nI (e + 1 + gB f (b * 64 + e)) := by rw [nI_1, nI_add]
      simp only [s101_34, s101_36, s101_38, s101_41, s101_42, s101_45, s101_45n, s101_46, s101_49, s101_51, s101_54, s101_54n, s101_55, s101_58, s101_60, s101_61, s101_62, s101_62n, s101_63, s101_66, s101_67, s101_68, s101_71, s101_74, s101_76, s101_76n, s101_77, s101_80, s101_81, s101_82, s101_84, s101_85, s101_87, s101_89, s101_91, Option.bind_some, Option.bind_none, Option.toList_some, Option.toList_none, List.nil_append, List.cons_append, ↓reduceIte, reduceCtorEq, cl1_i, cl1_r, cl1_n, cl1_0, cl1_J, okS_0, okS_1, okS_2, okS_3, okS_4, bB_0, bB_and, z_0, z_1, z_10, bB_t, bB_f, Bool.true_eq_false, Bool.false_eq_true, gT0, gT1, gT2, gT3, gT4, gT5, gT6, gF0, gF1, gF2, gF3, gF4, gS0, gS1, gC0, gC1, iT, iF, iS, iC, sT6_0, sT6_1, sF2, sF3, sF4_0, sF4_1, sS1, sC1, gM0, gM1, gM2, gM3, gM4, gM5, gM6, gM7, gM8, gM9, gM10, gM11, gM12, gM13, gM14, gM15, gM16, gM17, gM18, iM, sM5, sM6, sM11, sM12, sM13, sM14, sM16, sM18, sM2_0, sM2_1, sM3_0, sM3_1, sM4_0, sM4_1, mS_0, mS_1, mS_2, mS_3, mS_4, mS_5, mS_6, mS_7, mS_8, mS_9, mS_10, mS_11, mS_12, mS_13, mS_14, mS_15, mS_16, mS_17, mS_18, decide_true, decide_false, Bool.not_true, Bool.not_false, h3, hE, h4, ix2, a62 (inB_nI (show b * 64 + e < 1024 by omega) (by decide)), nI_clamp (show b * 64 + e < 2 ^ 31 by omega), hg.1, e1]
      by_cases h2 : e + 1 + gB f (b * 64 + e) < 64
      · have h5 : nI (e + 1 + gB f (b * 64 + e)) < 64 := nI_lit (k := 64) h2 (by decide)
        have hg2 := hB (b * 64 + (e + 1 + gB f (b * 64 + e))) (by omega)
        have h6 : ¬ gB f (b * 64 + (e + 1 + gB f (b * 64 + e))) = 0 := fun q => by
          unfold nx at hn
          rw [if_pos ⟨h1, h2, q⟩] at hn
          cases hn
        simp only [s101_94, s101_94n, s101_95, s101_98, s101_100, s101_101, s101_102, s101_104, s101_105, s101_106, s101_109, s101_110, s101_113, s101_114, Option.bind_some, Option.bind_none, Option.toList_some, Option.toList_none, List.nil_append, List.cons_append, ↓reduceIte, reduceCtorEq, cl1_i, cl1_r, cl1_n, cl1_0, cl1_J, okS_0, okS_1, okS_2, okS_3, okS_4, bB_0, bB_and, z_0, z_1, z_10, bB_t, bB_f, Bool.true_eq_false, Bool.false_eq_true, gT0, gT1, gT2, gT3, gT4, gT5, gT6, gF0, gF1, gF2, gF3, gF4, gS0, gS1, gC0, gC1, iT, iF, iS, iC, sT6_0, sT6_1, sF2, sF3, sF4_0, sF4_1, sS1, sC1, gM0, gM1, gM2, gM3, gM4, gM5, gM6, gM7, gM8, gM9, gM10, gM11, gM12, gM13, gM14, gM15, gM16, gM17, gM18, iM, sM5, sM6, sM11, sM12, sM13, sM14, sM16, sM18, sM2_0, sM2_1, sM3_0, sM3_1, sM4_0, sM4_1, mS_0, mS_1, mS_2, mS_3, mS_4, mS_5, mS_6, mS_7, mS_8, mS_9, mS_10, mS_11, mS_12, mS_13, mS_14, mS_15, mS_16, mS_17, mS_18, decide_true, decide_false, Bool.not_true, Bool.not_false, h5, ix2, a62 (inB_nI (show b * 64 + (e + 1 + gB f (b * 64 + e)) < 1024 by omega) (by decide)), nI_clamp (show b * 64 + (e + 1 + gB f (b * 64 + e)) < 2 ^ 31 by omega), hg2.1, nI_ne0 (Nat.pos_of_ne_zero h6) (show _ < 2 ^ 31 by omega)]
        exact fin2 _ _
      · have h5 : ¬ nI (e + 1 + gB f (b * 64 + e)) < 64 := nI_nlt (b := 64) (by omega) (by omega)
        simp only [s101_113, s101_114, Option.bind_some, Option.bind_none, Option.toList_some, Option.toList_none, List.nil_append, List.cons_append, ↓reduceIte, reduceCtorEq, cl1_i, cl1_r, cl1_n, cl1_0, cl1_J, okS_0, okS_1, okS_2, okS_3, okS_4, bB_0, bB_and, z_0, z_1, z_10, bB_t, bB_f, Bool.true_eq_false, Bool.false_eq_true, gT0, gT1, gT2, gT3, gT4, gT5, gT6, gF0, gF1, gF2, gF3, gF4, gS0, gS1, gC0, gC1, iT, iF, iS, iC, sT6_0, sT6_1, sF2, sF3, sF4_0, sF4_1, sS1, sC1, h5]
        exact fin2 _ _
    · have h4 : ¬ nI e < 64 := nI_nlt (b := 64) (by omega) (by omega)
      have e1 : nI e + 1 + 255 = nI (e + 256) := by
        rw [nI_1]
        exact nI_add _ 255
      have h5 : ¬ nI (e + 256) < 64 := nI_nlt (b := 64) (by omega) (by omega)
      simp only [s101_34, s101_36, s101_38, s101_41, s101_42, s101_45, s101_45n, s101_46, s101_49, s101_51, s101_54, s101_54n, s101_55, s101_58, s101_60, s101_61, s101_62, s101_62n, s101_63, s101_66, s101_67, s101_68, s101_71, s101_74, s101_76, s101_76n, s101_77, s101_80, s101_81, s101_82, s101_84, s101_85, s101_87, s101_89, s101_91, s101_113, s101_114, Option.bind_some, Option.bind_none, Option.toList_some, Option.toList_none, List.nil_append, List.cons_append, ↓reduceIte, reduceCtorEq, cl1_i, cl1_r, cl1_n, cl1_0, cl1_J, okS_0, okS_1, okS_2, okS_3, okS_4, bB_0, bB_and, z_0, z_1, z_10, bB_t, bB_f, Bool.true_eq_false, Bool.false_eq_true, gT0, gT1, gT2, gT3, gT4, gT5, gT6, gF0, gF1, gF2, gF3, gF4, gS0, gS1, gC0, gC1, iT, iF, iS, iC, sT6_0, sT6_1, sF2, sF3, sF4_0, sF4_1, sS1, sC1, gM0, gM1, gM2, gM3, gM4, gM5, gM6, gM7, gM8, gM9, gM10, gM11, gM12, gM13, gM14, gM15, gM16, gM17, gM18, iM, sM5, sM6, sM11, sM12, sM13, sM14, sM16, sM18, sM2_0, sM2_1, sM3_0, sM3_1, sM4_0, sM4_1, mS_0, mS_1, mS_2, mS_3, mS_4, mS_5, mS_6, mS_7, mS_8, mS_9, mS_10, mS_11, mS_12, mS_13, mS_14, mS_15, mS_16, mS_17, mS_18, decide_true, decide_false, Bool.not_true, Bool.not_false, h3, hE, h4, e1, h5]
      exact fin2 _ _
  | cons os rs ih =>
    intro e t R st z5 z6 he ht hG hL hE hF
    obtain ⟨⟨g1, g2, g3⟩, g4⟩ := hG
    have h9 := nx_lt g3
    rw [List.flatten_cons, FitS_app] at hF
    obtain ⟨f1, f2⟩ := hF
    have h3 : nI t < 64 := nI_lit (k := 64) (by omega) (by decide)
    have h1 : e < 64 := by omega
    have hg := hB (b * 64 + e) (by omega)
    rw [g1] at hg
    have h4 : nI e < 64 := nI_lit (k := 64) h1 (by decide)
    have e1 : nI e + 1 + nI (encS os).length = nI (e + 1 + (encS os).length) := by rw [nI_1, nI_add]
    have h5 : nI (e + 1 + (encS os).length) < 64 := nI_lit (k := 64) (by omega) (by decide)
    have hs : f.1 (b * 64 + (e + 1 + (encS os).length)) = 0 := by
      have hg2 := hB (b * 64 + (e + 1 + (encS os).length)) (by omega)
      have : gB f (b * 64 + (e + 1 + (encS os).length)) = 0 := by
        unfold nx at g3
        rw [g1] at g3
        split at g3
        · rename_i q; exact q.2.2
        · cases g3
      rw [hg2.1, this, nI_0]
    have hbs : ∀ i, i < (encS os).length → coz false f O (b * 64 + e + 1 + i) = (encS os).getD i 0 := fun i hi => by
      have : (rb f (b * 64 + e + 1) (encS os).length)[i]? = (encS os)[i]? := by rw [g2]
      unfold rb at this
      rw [List.getElem?_map, List.getElem?_range hi] at this
      rw [List.getD_eq_getElem?_getD, ← this]
      rfl
    obtain ⟨R1, r1, r2, r3⟩ := c100 (sc := sc) (F := F) (s := s) (c := c) (th := th) (be := be) (qu := qu) (mo := mo) (li := li) (f := f) (mt := mt) (jl := jl) (R := R) (O := O) (A := A) (z := false) (base := b * 64 + e + 1) (os := os) (by show _ ≤ 1024; omega) (by omega) hbs hL f1
    obtain ⟨R2, r4, r5, r6⟩ := ih (e + (encS os).length + 2) (t + 1) (R1.1, (R1.2.1, R1.2.2.1, R1.2.2.2.1, nI (e + (encS os).length + 2))) (apS st os) (some (.int (nI (encS os).length))) (some (.int (nI (e + 1 + (encS os).length)))) h9.2 (by omega) g4 r2 rfl f2
    refine ⟨R2, ?_, by rw [List.flatten_cons, apS_app]; exact r5, r6⟩
    rw [← r4]
    rw [s101_34]
    simp only [s101_36, s101_38, s101_41, s101_42, s101_45, s101_45n, s101_46, s101_49, s101_51, s101_54, s101_54n, s101_55, s101_58, s101_60, s101_61, s101_62, s101_62n, s101_63, s101_66, s101_67, s101_68, s101_71, s101_74, s101_76, s101_76n, s101_77, s101_80, s101_81, s101_82, s101_84, s101_85, s101_87, s101_89, s101_91, Option.bind_some, Option.bind_none, Option.toList_some, Option.toList_none, List.nil_append, List.cons_append, ↓reduceIte, reduceCtorEq, cl1_i, cl1_r, cl1_n, cl1_0, cl1_J, okS_0, okS_1, okS_2, okS_3, okS_4, bB_0, bB_and, z_0, z_1, z_10, bB_t, bB_f, Bool.true_eq_false, Bool.false_eq_true, gT0, gT1, gT2, gT3, gT4, gT5, gT6, gF0, gF1, gF2, gF3, gF4, gS0, gS1, gC0, gC1, iT, iF, iS, iC, sT6_0, sT6_1, sF2, sF3, sF4_0, sF4_1, sS1, sC1, gM0, gM1, gM2, gM3, gM4, gM5, gM6, gM7, gM8, gM9, gM10, gM11, gM12, gM13, gM14, gM15, gM16, gM17, gM18, iM, sM5, sM6, sM11, sM12, sM13, sM14, sM16, sM18, sM2_0, sM2_1, sM3_0, sM3_1, sM4_0, sM4_1, mS_0, mS_1, mS_2, mS_3, mS_4, mS_5, mS_6, mS_7, mS_8, mS_9, mS_10, mS_11, mS_12, mS_13, mS_14, mS_15, mS_16, mS_17, mS_18, decide_true, decide_false, Bool.not_true, Bool.not_false, h3, hE, h4, ix2, a62 (inB_nI (show b * 64 + e < 1024 by omega) (by decide)), nI_clamp (show b * 64 + e < 2 ^ 31 by omega), hg.1, e1]
    have e2 : nI (b * 64 + e) + 1 = nI (b * 64 + e + 1) := nI_1 _
    have e3 : b * 64 + (e + 1 + (encS os).length) = b * 64 + e + 1 + (encS os).length := by omega
    have r1' : RunM 100 [.ref 61, .ref 62, .int (nI (b * 64 + e + 1)), .int (nI (b * 64 + (e + 1 + (encS os).length)))] (hp sc F s c th be qu mo li (hM (mS f mt jl R O A))) = some (none, (hp sc F s c th be qu mo li (hM (mS f mt jl (R1) O A)))) := by rw [e3]; exact r1
    have e4 : nI (e + 1 + (encS os).length) + 1 = nI (e + (encS os).length + 2) := by
      rw [nI_1]
      congr 1
      omega
    simp only [s101_94, s101_94n, s101_95, s101_98, s101_100, s101_101, s101_102, s101_104, s101_105, s101_106, s101_109, s101_110, s101_113, s101_114, s101_115, s101_116, s101_119, s101_119n, s101_120, s101_120n, s101_121, s101_124, s101_126, s101_127, s101_128, s101_128n, s101_129, s101_132, s101_133, s101_134, s101_135, s101_137, s101_138, s101_139, s101_141, s101_142, Option.bind_some, Option.bind_none, Option.toList_some, Option.toList_none, List.nil_append, List.cons_append, ↓reduceIte, reduceCtorEq, cl1_i, cl1_r, cl1_n, cl1_0, cl1_J, okS_0, okS_1, okS_2, okS_3, okS_4, bB_0, bB_and, z_0, z_1, z_10, bB_t, bB_f, Bool.true_eq_false, Bool.false_eq_true, gT0, gT1, gT2, gT3, gT4, gT5, gT6, gF0, gF1, gF2, gF3, gF4, gS0, gS1, gC0, gC1, iT, iF, iS, iC, sT6_0, sT6_1, sF2, sF3, sF4_0, sF4_1, sS1, sC1, gM0, gM1, gM2, gM3, gM4, gM5, gM6, gM7, gM8, gM9, gM10, gM11, gM12, gM13, gM14, gM15, gM16, gM17, gM18, iM, sM5, sM6, sM11, sM12, sM13, sM14, sM16, sM18, sM2_0, sM2_1, sM3_0, sM3_1, sM4_0, sM4_1, mS_0, mS_1, mS_2, mS_3, mS_4, mS_5, mS_6, mS_7, mS_8, mS_9, mS_10, mS_11, mS_12, mS_13, mS_14, mS_15, mS_16, mS_17, mS_18, decide_true, decide_false, Bool.not_true, Bool.not_false, h5, hE, ix2, a62 (inB_nI (show b * 64 + (e + 1 + (encS os).length) < 1024 by omega) (by decide)), nI_clamp (show b * 64 + (e + 1 + (encS os).length) < 2 ^ 31 by omega), hs, e2, r1']
    simp only [s101_145, s101_145n, s101_146, s101_148, s101_149, s101_150, s101_153, s101_156, Option.bind_some, Option.bind_none, Option.toList_some, Option.toList_none, List.nil_append, List.cons_append, ↓reduceIte, reduceCtorEq, cl1_i, cl1_r, cl1_n, cl1_0, cl1_J, okS_0, okS_1, okS_2, okS_3, okS_4, bB_0, bB_and, z_0, z_1, z_10, bB_t, bB_f, Bool.true_eq_false, Bool.false_eq_true, gT0, gT1, gT2, gT3, gT4, gT5, gT6, gF0, gF1, gF2, gF3, gF4, gS0, gS1, gC0, gC1, iT, iF, iS, iC, sT6_0, sT6_1, sF2, sF3, sF4_0, sF4_1, sS1, sC1, gM0, gM1, gM2, gM3, gM4, gM5, gM6, gM7, gM8, gM9, gM10, gM11, gM12, gM13, gM14, gM15, gM16, gM17, gM18, iM, sM5, sM6, sM11, sM12, sM13, sM14, sM16, sM18, sM2_0, sM2_1, sM3_0, sM3_1, sM4_0, sM4_1, mS_0, mS_1, mS_2, mS_3, mS_4, mS_5, mS_6, mS_7, mS_8, mS_9, mS_10, mS_11, mS_12, mS_13, mS_14, mS_15, mS_16, mS_17, mS_18, decide_true, decide_false, Bool.not_true, Bool.not_false, e4, nI_1]
    rfl
theorem c101 (hB : BOk f) {q : Nat} (hq : q < 8) {st : Lst} (hG : LdR f q st) : ∃ R', RunM 101 [.ref 61, .int (nI q)] (hp sc F s c th be qu mo li (hM (mS f mt jl R O A))) = some (some (.int (oI (act f q))), (hp sc F s c th be qu mo li (hM (mS f mt jl (R') O A)))) ∧ MgR R' st.1 st.2 ∧ R'.2.2.2.2 = nI ((act f q).elim 1 (lE f)) := by
  rcases hG with ⟨hn, rfl⟩ | ⟨b, rs, ha, hG, hF, rfl⟩
  · refine ⟨(R.1, (0, R.2.2.1, 0, 1)), ?_, ⟨by decide, nI_0.symm, fun k e h => by simp [nilL] at h, rfl⟩, by rw [hn]; rfl⟩
    have ho : oI none = -1 := rfl
    have hm : (-1 : Int32) < 0 := by decide
    have h0 : (0 : Int32) < 64 := by decide
    simp only [e101, s101_0, s101_0n, s101_1, s101_2, s101_5, s101_6, s101_6n, s101_7, s101_8, s101_11, s101_11n, s101_12, s101_13, s101_16, s101_16n, s101_17, s101_18, s101_21, s101_22, s101_25, s101_26, s101_29, s101_30, s101_31, s101_32, s101_34, s101_36, s101_38, s101_41, s101_42, s101_159, s101_160, Option.bind_some, Option.bind_none, Option.toList_some, Option.toList_none, List.nil_append, List.cons_append, ↓reduceIte, reduceCtorEq, cl1_i, cl1_r, cl1_n, cl1_0, cl1_J, okS_0, okS_1, okS_2, okS_3, okS_4, bB_0, bB_and, z_0, z_1, z_10, bB_t, bB_f, Bool.true_eq_false, Bool.false_eq_true, gT0, gT1, gT2, gT3, gT4, gT5, gT6, gF0, gF1, gF2, gF3, gF4, gS0, gS1, gC0, gC1, iT, iF, iS, iC, sT6_0, sT6_1, sF2, sF3, sF4_0, sF4_1, sS1, sC1, gM0, gM1, gM2, gM3, gM4, gM5, gM6, gM7, gM8, gM9, gM10, gM11, gM12, gM13, gM14, gM15, gM16, gM17, gM18, iM, sM5, sM6, sM11, sM12, sM13, sM14, sM16, sM18, sM2_0, sM2_1, sM3_0, sM3_1, sM4_0, sM4_1, mS_0, mS_1, mS_2, mS_3, mS_4, mS_5, mS_6, mS_7, mS_8, mS_9, mS_10, mS_11, mS_12, mS_13, mS_14, mS_15, mS_16, mS_17, mS_18, decide_true, decide_false, Bool.not_true, Bool.not_false, c96 hB hq, hn, ho, hm, h0]
    rfl
  · obtain ⟨hb, -⟩ := act_lt hq ha
    obtain ⟨R', r1, r2, r3⟩ := c101_loop (sc := sc) (F := F) (s := s) (c := c) (th := th) (be := be) (qu := qu) (mo := mo) (li := li) (f := f) (mt := mt) (jl := jl) (O := O) (A := A) hB hb (y := nI q) rs 1 0 (R.1, (0, R.2.2.1, 0, 1)) nilL none none (by omega) (by omega) hG ⟨by decide, nI_0.symm, fun k e h => by simp [nilL] at h, rfl⟩ rfl hF
    refine ⟨R', ?_, r2, by rw [r3, ha, ← LgR_lE hG]; rfl⟩
    have ho : oI (some b) = nI b := rfl
    rw [nI_0] at r1
    simp only [e101, s101_0, s101_0n, s101_1, s101_2, s101_5, s101_6, s101_6n, s101_7, s101_8, s101_11, s101_11n, s101_12, s101_13, s101_16, s101_16n, s101_17, s101_18, s101_21, s101_22, s101_25, s101_26, s101_29, s101_30, s101_31, s101_32, Option.bind_some, Option.bind_none, Option.toList_some, Option.toList_none, List.nil_append, List.cons_append, ↓reduceIte, reduceCtorEq, cl1_i, cl1_r, cl1_n, cl1_0, cl1_J, okS_0, okS_1, okS_2, okS_3, okS_4, bB_0, bB_and, z_0, z_1, z_10, bB_t, bB_f, Bool.true_eq_false, Bool.false_eq_true, gT0, gT1, gT2, gT3, gT4, gT5, gT6, gF0, gF1, gF2, gF3, gF4, gS0, gS1, gC0, gC1, iT, iF, iS, iC, sT6_0, sT6_1, sF2, sF3, sF4_0, sF4_1, sS1, sC1, gM0, gM1, gM2, gM3, gM4, gM5, gM6, gM7, gM8, gM9, gM10, gM11, gM12, gM13, gM14, gM15, gM16, gM17, gM18, iM, sM5, sM6, sM11, sM12, sM13, sM14, sM16, sM18, sM2_0, sM2_1, sM3_0, sM3_1, sM4_0, sM4_1, mS_0, mS_1, mS_2, mS_3, mS_4, mS_5, mS_6, mS_7, mS_8, mS_9, mS_10, mS_11, mS_12, mS_13, mS_14, mS_15, mS_16, mS_17, mS_18, decide_true, decide_false, Bool.not_true, Bool.not_false, c96 hB hq, ha, ho, nI_pos (show b < 2 ^ 31 by omega)]
    exact r1
end MB
