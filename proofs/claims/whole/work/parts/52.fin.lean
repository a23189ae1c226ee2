/-! ===== mount: a move brought to its end ===== -/
theorem finD {Lo Lo' : LO} (hS : Sh Lo) (hk : ∀ x y, y ∈ kids (lsO Lo' x).1 → y ∈ kids (lsO Lo x).1) (hs : ∀ x, (Lo x).isSome = true → (Lo' x).isSome = true) (hm : ∀ x, (lsO Lo' x).2 ≠ none → (lsO Lo x).2 ≠ none) : Sh Lo' ∧ ∀ x, Rch (lsO Lo') 0 x → Rch (lsO Lo) 0 x := by
  have hR : ∀ x, Rch (lsO Lo') 0 x → Rch (lsO Lo) 0 x := fun x hx => Rch.in (P := Rch (lsO Lo) 0) Rch.rf (fun x hx y hy => hx.step (hk x y hy)) hx
  exact ⟨⟨fun x hx hn => hs x (hS.1 x (hR x hx) hn), fun x y hx hy h1 h2 => hS.2 x y (hR x hx) (hR y hy) (hm x h1) (hm y h2)⟩, hR⟩
def gnO (a : Nat) : List Opn := [(3, a, 0, [])]
def nmO : List Opn := [(5, 0, 0, [])]
theorem apG (st : Lst) (a : Nat) : apS st (gnO a) = (goneE st.1 a, st.2) := rfl
theorem apN (st : Lst) : apS st nmO = (st.1, none) := rfl
theorem FitG (st : Lst) {a : Nat} (h : a ≤ 99) : FitS st (gnO a) := FitS_one (Or.inr (Or.inr (Or.inl ⟨rfl, h⟩))) (fun h => by rcases h with h | h <;> cases h)
theorem FitN (st : Lst) : FitS st nmO := FitS_one (Or.inr (Or.inr (Or.inr (Or.inr rfl)))) (fun h => by rcases h with h | h <;> cases h)
theorem encG (a : Nat) : encS (gnO a) = [3, nI a] := rfl
theorem encN : encS nmO = [5] := rfl
/-- a gone entry of folder p -/
theorem finG {Lo : LO} (hS : Sh Lo) {p a : Nat} {st : Lst} (hp : Lo p = some st) : Sh (upO Lo p (some (apS st (gnO a)))) ∧ (∀ x, Rch (lsO (upO Lo p (some (apS st (gnO a))))) 0 x → Rch (lsO Lo) 0 x) ∧ (∀ x, (lsO (upO Lo p (some (apS st (gnO a)))) x).2 = (lsO Lo x).2) ∧ ∀ x, (Lo x).isSome = true → (upO Lo p (some (apS st (gnO a))) x).isSome = true := by
  have h2 : ∀ x, (lsO (upO Lo p (some (apS st (gnO a)))) x).2 = (lsO Lo x).2 := fun x => by
    by_cases hx : x = p
    · subst hx; rw [lsO_self, lsO_of hp]; rfl
    · rw [lsO_ne _ _ hx]
  have h3 : ∀ x, (Lo x).isSome = true → (upO Lo p (some (apS st (gnO a))) x).isSome = true := fun x hx => by
    by_cases hxp : x = p
    · subst hxp; rw [upO_self]; rfl
    · rw [upO_ne _ _ hxp]; exact hx
  obtain ⟨k1, k2⟩ := finD (Lo' := upO Lo p (some (apS st (gnO a)))) hS (fun x y hy => by
    by_cases hx : x = p
    · subst hx
      rw [lsO_self] at hy
      rw [lsO_of hp]
      exact kids_gone (es := st.1) (a := a) hy
    · rw [lsO_ne _ _ hx] at hy
      exact hy) h3 (fun x h => by rw [h2] at h; exact h)
  exact ⟨k1, k2, h2, h3⟩
/-- the mark of folder m taken away -/
theorem finN {Lo : LO} (hS : Sh Lo) {m : Nat} {st : Lst} (hm : Lo m = some st) : Sh (upO Lo m (some (apS st nmO))) ∧ (∀ x, Rch (lsO (upO Lo m (some (apS st nmO)))) 0 x → Rch (lsO Lo) 0 x) ∧ (∀ x, x ≠ m → lsO (upO Lo m (some (apS st nmO))) x = lsO Lo x) ∧ (lsO (upO Lo m (some (apS st nmO))) m).2 = none ∧ ∀ x, (Lo x).isSome = true → (upO Lo m (some (apS st nmO)) x).isSome = true := by
  have h2 : ∀ x, x ≠ m → lsO (upO Lo m (some (apS st nmO))) x = lsO Lo x := fun x hx => lsO_ne _ _ hx
  have h3 : ∀ x, (Lo x).isSome = true → (upO Lo m (some (apS st nmO)) x).isSome = true := fun x hx => by
    by_cases hxp : x = m
    · subst hxp; rw [upO_self]; rfl
    · rw [upO_ne _ _ hxp]; exact hx
  have h4 : (lsO (upO Lo m (some (apS st nmO))) m).2 = none := by rw [lsO_self]; rfl
  obtain ⟨k1, k2⟩ := finD (Lo' := upO Lo m (some (apS st nmO))) hS (fun x y hy => by
    by_cases hx : x = m
    · subst hx
      rw [lsO_self] at hy
      rw [lsO_of hm]
      exact hy
    · rw [lsO_ne _ _ hx] at hy
      exact hy) h3 (fun x h => by
    by_cases hx : x = m
    · subst hx; exact absurd h4 h
    · rw [h2 x hx] at h; exact h)
  exact ⟨k1, k2, h2, h4, h3⟩
section FINC
variable {sc : AC} {f : FB} {s c : OpS} {th be qu : Nat → Int32} {mo : Int32} {li : Nat → LiS} {mm : AH} {Lo : LO} {q m p a : Nat}
theorem k82 {F : FlS} (hX : IX f Lo) (hT : ThS Lo th) (hA : LiA Lo li) : ∀ (n q : Nat) (z : Option Value), q + n ≤ 8 → (∀ x, q ≤ x → x < q + n → (froS (lsO Lo) 0).testBit x = true → (lsO Lo x).2 = none) → ∃ z', Run 82 2 [some (.ref 1), some (.int (nI q)), z] [] (hp sc (F) s c th be qu mo li mm) = Run 82 2 [some (.ref 1), some (.int (nI (q + n))), z'] [] (hp sc (F) s c th be qu mo li mm) := by
  intro n
  induction n with
  | zero => intro q z h1 h2; exact ⟨z, rfl⟩
  | succ n ih =>
    intro q z h1 h2
    have hq : q < 8 := by omega
    have h3 : nI q < 8 := nI_lit (k := 8) hq (by decide)
    cases hb : (froS (lsO Lo) 0).testBit q with
    | false =>
      obtain ⟨z', r1⟩ := ih (q + 1) (some .null) (by omega) (fun x hx1 hx2 => h2 x (by omega) (by omega))
      refine ⟨z', ?_⟩
      rw [show q + (n + 1) = q + 1 + n by omega, ← r1, s82_2]
      simp only [s82_3, s82_5, s82_8, s82_8n, s82_9, s82_10, Option.bind_some, Option.bind_none, Option.toList_some, Option.toList_none, List.nil_append, List.cons_append, ↓reduceIte, reduceCtorEq, cl1_i, cl1_r, cl1_n, cl1_0, cl1_J, okS_0, okS_1, okS_2, okS_3, okS_4, bB_0, bB_and, z_0, z_1, z_10, bB_t, bB_f, Bool.true_eq_false, Bool.false_eq_true, gT0, gT1, gT2, gT3, gT4, gT5, gT6, gF0, gF1, gF2, gF3, gF4, gS0, gS1, gC0, gC1, iT, iF, iS, iC, sT6_0, sT6_1, sF2, sF3, sF4_0, sF4_1, sS1, sC1, h3, c77n hT (show tIn Lo (nI q) = false by rw [tIn_nI hq, hb])]
      simp only [s82_13, s82_13n, s82_14, s82_14n, s82_15, s82_15n, s82_30, s82_33, Option.bind_some, Option.bind_none, Option.toList_some, Option.toList_none, List.nil_append, List.cons_append, ↓reduceIte, reduceCtorEq, cl1_i, cl1_r, cl1_n, cl1_0, cl1_J, okS_0, okS_1, okS_2, okS_3, okS_4, bB_0, bB_and, z_0, z_1, z_10, bB_t, bB_f, Bool.true_eq_false, Bool.false_eq_true, gT0, gT1, gT2, gT3, gT4, gT5, gT6, gF0, gF1, gF2, gF3, gF4, gS0, gS1, gC0, gC1, iT, iF, iS, iC, sT6_0, sT6_1, sF2, sF3, sF4_0, sF4_1, sS1, sC1, nI_1]
    | true =>
      obtain ⟨z', r1⟩ := ih (q + 1) (some (.ref (13 + 6 * q))) (by omega) (fun x hx1 hx2 => h2 x (by omega) (by omega))
      refine ⟨z', ?_⟩
      have hL := hA q hq
      have hmk := h2 q (Nat.le_refl _) (by omega) hb
      rw [hmk] at hL
      rw [show q + (n + 1) = q + 1 + n by omega, ← r1, s82_2]
      simp only [s82_3, s82_5, s82_8, s82_8n, s82_9, s82_10, Option.bind_some, Option.bind_none, Option.toList_some, Option.toList_none, List.nil_append, List.cons_append, ↓reduceIte, reduceCtorEq, cl1_i, cl1_r, cl1_n, cl1_0, cl1_J, okS_0, okS_1, okS_2, okS_3, okS_4, bB_0, bB_and, z_0, z_1, z_10, bB_t, bB_f, Bool.true_eq_false, Bool.false_eq_true, gT0, gT1, gT2, gT3, gT4, gT5, gT6, gF0, gF1, gF2, gF3, gF4, gS0, gS1, gC0, gC1, iT, iF, iS, iC, sT6_0, sT6_1, sF2, sF3, sF4_0, sF4_1, sS1, sC1, h3, c77y hT hq hb]
      simp only [s82_13, s82_13n, s82_14, s82_14n, s82_15, s82_15n, s82_18, s82_18n, s82_19, s82_22, Option.bind_some, Option.bind_none, Option.toList_some, Option.toList_none, List.nil_append, List.cons_append, ↓reduceIte, reduceCtorEq, cl1_i, cl1_r, cl1_n, cl1_0, cl1_J, okS_0, okS_1, okS_2, okS_3, okS_4, bB_0, bB_and, z_0, z_1, z_10, bB_t, bB_f, Bool.true_eq_false, Bool.false_eq_true, gT0, gT1, gT2, gT3, gT4, gT5, gT6, gF0, gF1, gF2, gF3, gF4, gS0, gS1, gC0, gC1, iT, iF, iS, iC, sT6_0, sT6_1, sF2, sF3, sF4_0, sF4_1, sS1, sC1, gO0 hq, gO1 hq, gO2 hq, gO3 hq, gL0 hq, gL1 hq, gL2 hq, gL3 hq, gL4 hq, gL5 hq, gL6 hq, iO hq, iL hq, sL4 hq, sL5 hq, sL6 hq, c27 hq hL (fun p h => by cases h), Option.isSome_none]
      simp only [s82_25, s82_30, s82_33, Option.bind_some, Option.bind_none, Option.toList_some, Option.toList_none, List.nil_append, List.cons_append, ↓reduceIte, reduceCtorEq, cl1_i, cl1_r, cl1_n, cl1_0, cl1_J, okS_0, okS_1, okS_2, okS_3, okS_4, bB_0, bB_and, z_0, z_1, z_10, bB_t, bB_f, Bool.true_eq_false, Bool.false_eq_true, gT0, gT1, gT2, gT3, gT4, gT5, gT6, gF0, gF1, gF2, gF3, gF4, gS0, gS1, gC0, gC1, iT, iF, iS, iC, sT6_0, sT6_1, sF2, sF3, sF4_0, sF4_1, sS1, sC1, nI_1]
theorem k82n {F : FlS} (hX : IX f Lo) (hT : ThS Lo th) (hA : LiA Lo li) (h2 : ∀ x, x < 8 → (froS (lsO Lo) 0).testBit x = true → (lsO Lo x).2 = none) : RunM 82 [.ref 1] (hp sc (F) s c th be qu mo li mm) = some (some .null, (hp sc (F) s c th be qu mo li mm)) := by
  obtain ⟨z', r1⟩ := k82 (sc := sc) (F := F) (s := s) (c := c) (be := be) (qu := qu) (mo := mo) (mm := mm) hX hT hA 8 0 none (by omega) (fun x _ hx => h2 x (by omega))
  rw [nI_0] at r1
  have h3 : ¬ nI (0 + 8) < 8 := by decide
  simp only [e82, s82_0, s82_1, Option.bind_some, Option.bind_none, Option.toList_some, Option.toList_none, List.nil_append, List.cons_append, ↓reduceIte, reduceCtorEq, cl1_i, cl1_r, cl1_n, cl1_0, cl1_J, okS_0, okS_1, okS_2, okS_3, okS_4, bB_0, bB_and, z_0, z_1, z_10, bB_t, bB_f, Bool.true_eq_false, Bool.false_eq_true, gT0, gT1, gT2, gT3, gT4, gT5, gT6, gF0, gF1, gF2, gF3, gF4, gS0, gS1, gC0, gC1, iT, iF, iS, iC, sT6_0, sT6_1, sF2, sF3, sF4_0, sF4_1, sS1, sC1]
  rw [r1]
  simp only [s82_2, s82_3, s82_5, s82_36, s82_37, s82_37n, Option.bind_some, Option.bind_none, Option.toList_some, Option.toList_none, List.nil_append, List.cons_append, ↓reduceIte, reduceCtorEq, cl1_i, cl1_r, cl1_n, cl1_0, cl1_J, okS_0, okS_1, okS_2, okS_3, okS_4, bB_0, bB_and, z_0, z_1, z_10, bB_t, bB_f, Bool.true_eq_false, Bool.false_eq_true, gT0, gT1, gT2, gT3, gT4, gT5, gT6, gF0, gF1, gF2, gF3, gF4, gS0, gS1, gC0, gC1, iT, iF, iS, iC, sT6_0, sT6_1, sF2, sF3, sF4_0, sF4_1, sS1, sC1, h3]
theorem k82s {F : FlS} (hX : IX f Lo) (hT : ThS Lo th) (hA : LiA Lo li) (hm8 : m < 8) (hmb : (froS (lsO Lo) 0).testBit m = true) {pm : Nat × Nat} (hmk : (lsO Lo m).2 = some pm) (h2 : ∀ x, x < m → (froS (lsO Lo) 0).testBit x = true → (lsO Lo x).2 = none) : RunM 82 [.ref 1] (hp sc (F) s c th be qu mo li mm) = some (some (.ref (13 + 6 * m)), (hp sc (F) s c th be qu mo li mm)) := by
  obtain ⟨z', r1⟩ := k82 (sc := sc) (F := F) (s := s) (c := c) (be := be) (qu := qu) (mo := mo) (mm := mm) hX hT hA m 0 none (by omega) (fun x _ hx => h2 x (by omega))
  rw [nI_0, Nat.zero_add] at r1
  have h3 : nI m < 8 := nI_lit (k := 8) hm8 (by decide)
  have hL := hA m hm8
  have hM := (hX.okL hm8).2.2.2
  simp only [e82, s82_0, s82_1, Option.bind_some, Option.bind_none, Option.toList_some, Option.toList_none, List.nil_append, List.cons_append, ↓reduceIte, reduceCtorEq, cl1_i, cl1_r, cl1_n, cl1_0, cl1_J, okS_0, okS_1, okS_2, okS_3, okS_4, bB_0, bB_and, z_0, z_1, z_10, bB_t, bB_f, Bool.true_eq_false, Bool.false_eq_true, gT0, gT1, gT2, gT3, gT4, gT5, gT6, gF0, gF1, gF2, gF3, gF4, gS0, gS1, gC0, gC1, iT, iF, iS, iC, sT6_0, sT6_1, sF2, sF3, sF4_0, sF4_1, sS1, sC1]
  rw [r1]
  simp only [s82_2, s82_3, s82_5, s82_8, s82_8n, s82_9, s82_10, Option.bind_some, Option.bind_none, Option.toList_some, Option.toList_none, List.nil_append, List.cons_append, ↓reduceIte, reduceCtorEq, cl1_i, cl1_r, cl1_n, cl1_0, cl1_J, okS_0, okS_1, okS_2, okS_3, okS_4, bB_0, bB_and, z_0, z_1, z_10, bB_t, bB_f, Bool.true_eq_false, Bool.false_eq_true, gT0, gT1, gT2, gT3, gT4, gT5, gT6, gF0, gF1, gF2, gF3, gF4, gS0, gS1, gC0, gC1, iT, iF, iS, iC, sT6_0, sT6_1, sF2, sF3, sF4_0, sF4_1, sS1, sC1, h3, c77y hT hm8 hmb]
  simp only [s82_13, s82_13n, s82_14, s82_14n, s82_15, s82_15n, s82_18, s82_18n, s82_19, s82_22, Option.bind_some, Option.bind_none, Option.toList_some, Option.toList_none, List.nil_append, List.cons_append, ↓reduceIte, reduceCtorEq, cl1_i, cl1_r, cl1_n, cl1_0, cl1_J, okS_0, okS_1, okS_2, okS_3, okS_4, bB_0, bB_and, z_0, z_1, z_10, bB_t, bB_f, Bool.true_eq_false, Bool.false_eq_true, gT0, gT1, gT2, gT3, gT4, gT5, gT6, gF0, gF1, gF2, gF3, gF4, gS0, gS1, gC0, gC1, iT, iF, iS, iC, sT6_0, sT6_1, sF2, sF3, sF4_0, sF4_1, sS1, sC1, gO0 hm8, gO1 hm8, gO2 hm8, gO3 hm8, gL0 hm8, gL1 hm8, gL2 hm8, gL3 hm8, gL4 hm8, gL5 hm8, gL6 hm8, iO hm8, iL hm8, sL4 hm8, sL5 hm8, sL6 hm8, c27 hm8 hL (fun p h => (hM p h).1), hmk, Option.isSome_some]
  simp only [s82_25, s82_28, s82_28n, s82_29, s82_29n, Option.bind_some, Option.bind_none, Option.toList_some, Option.toList_none, List.nil_append, List.cons_append, ↓reduceIte, reduceCtorEq, cl1_i, cl1_r, cl1_n, cl1_0, cl1_J, okS_0, okS_1, okS_2, okS_3, okS_4, bB_0, bB_and, z_0, z_1, z_10, bB_t, bB_f, Bool.true_eq_false, Bool.false_eq_true, gT0, gT1, gT2, gT3, gT4, gT5, gT6, gF0, gF1, gF2, gF3, gF4, gS0, gS1, gC0, gC1, iT, iF, iS, iC, sT6_0, sT6_1, sF2, sF3, sF4_0, sF4_1, sS1, sC1]
theorem s58_57n {L : AL} {S : List Value} {h : AH} {x : Nat} (hO : isO h x 4 = true) (hS : okS S = true) : Run 58 57 L (.null :: .ref x :: S) h = (RunM 83 [.ref x, .null] h).bind fun q => Run 58 60 L (q.1.toList ++ S) q.2 := R_virt (show cd 58 57 = some (.invokevirtual 80, 3, 83) by decide +kernel) rfl rfl rfl (Nat.le_of_ble_eq_true rfl) hO hS
theorem e83n {h : AH} {x : Nat} : RunM 83 [.ref x, .null] h = Run 83 0 [some (.ref x), some .null, none, none] [] h := rfl
/-- no folder has a mark -/
theorem k83n {h : AH} : RunM 83 [.ref 1, .null] h = some (some (.int 1), h) := by
  simp only [e83n, s83_0, s83_0n, s83_1, s83_1n, s83_4, s83_5, Option.bind_some, Option.bind_none, Option.toList_some, Option.toList_none, List.nil_append, List.cons_append, ↓reduceIte, reduceCtorEq, cl1_i, cl1_r, cl1_n, cl1_0, cl1_J, okS_0, okS_1, okS_2, okS_3, okS_4, bB_0, bB_and, z_0, z_1, z_10, bB_t, bB_f, Bool.true_eq_false, Bool.false_eq_true, gT0, gT1, gT2, gT3, gT4, gT5, gT6, gF0, gF1, gF2, gF3, gF4, gS0, gS1, gC0, gC1, iT, iF, iS, iC, sT6_0, sT6_1, sF2, sF3, sF4_0, sF4_1, sS1, sC1]
/-- the source still has the entry: its commit -/
theorem k83A (hX : IX f Lo) (hT : ThS Lo th) (hA : LiA Lo li) (hm8 : m < 8) (hmk : (lsO Lo m).2 = some (p, a)) (hpb : (froS (lsO Lo) 0).testBit p = true) {st : Lst} (hst : Lo p = some st) (hfd : fiE st.1 (nI a) ≠ none) : ∃ l' s', RunM 83 [.ref 1, .ref (13 + 6 * m)] (hp sc (fB f) s c th be qu mo li mm) = Run 83 65 [some (.ref 1), some (.ref (13 + 6 * m)), some (.int (nI a)), some (.ref (13 + 6 * p))] [.int (bB (cmq f p (gnO a) st).1)] (hp sc (fB (cmq f p (gnO a) st).2) (s') (opf c.1 (encS (gnO a))) th be qu mo (upL li p l') mm) ∧ LiR l' (apS st (gnO a)).1 (apS st (gnO a)).2 := by
  have hL := hA m hm8
  have hMk := (hX.okL hm8).2.2.2 _ hmk
  have hp8 : p < 8 := hMk.1
  have ha99 : a ≤ 99 := hMk.2.2
  have hLM := hL.2.2.2
  rw [hmk] at hLM
  have hLp := hA p hp8
  rw [lsO_of hst] at hLp
  obtain ⟨l', s', r5, r6⟩ := c17q (sc := sc) (s := s) (th := th) (be := be) (qu := qu) (mo := mo) (mm := mm) (li := li) hX hp8 hst hLp (FitG st ha99) (by rw [encG]; exact Nat.le_of_ble_eq_true rfl) (j := c.1)
  refine ⟨l', s', ?_, r6⟩
  obtain ⟨k, hk⟩ := Option.ne_none_iff_exists'.mp hfd
  have hk31 : k < 2 ^ 31 := by have := (fiE_lt hk).1; have := hLp.1; omega
  have e1 : (li m).2.2.2.2.2.1 = nI p := hLM.1
  have e2 : (li m).2.2.2.2.2.2 = nI a := hLM.2
  rw [encG] at r5
  simp only [e83, s83_0, s83_0n, s83_1, s83_1n, s83_6, s83_6n, s83_7, s83_10, s83_13, s83_14, s83_14n, s83_15, s83_15n, s83_16, s83_19, s83_22, Option.bind_some, Option.bind_none, Option.toList_some, Option.toList_none, List.nil_append, List.cons_append, ↓reduceIte, reduceCtorEq, cl1_i, cl1_r, cl1_n, cl1_0, cl1_J, okS_0, okS_1, okS_2, okS_3, okS_4, bB_0, bB_and, z_0, z_1, z_10, bB_t, bB_f, Bool.true_eq_false, Bool.false_eq_true, gT0, gT1, gT2, gT3, gT4, gT5, gT6, gF0, gF1, gF2, gF3, gF4, gS0, gS1, gC0, gC1, iT, iF, iS, iC, sT6_0, sT6_1, sF2, sF3, sF4_0, sF4_1, sS1, sC1, gO0 hm8, gO1 hm8, gO2 hm8, gO3 hm8, gL0 hm8, gL1 hm8, gL2 hm8, gL3 hm8, gL4 hm8, gL5 hm8, gL6 hm8, iO hm8, iL hm8, sL4 hm8, sL5 hm8, sL6 hm8, e1, e2, c77y hT hp8 hpb]
  simp only [s83_25, s83_25n, s83_26, s83_26n, s83_27, s83_27n, s83_30, s83_30n, s83_31, s83_34, s83_35, s83_38, Option.bind_some, Option.bind_none, Option.toList_some, Option.toList_none, List.nil_append, List.cons_append, ↓reduceIte, reduceCtorEq, cl1_i, cl1_r, cl1_n, cl1_0, cl1_J, okS_0, okS_1, okS_2, okS_3, okS_4, bB_0, bB_and, z_0, z_1, z_10, bB_t, bB_f, Bool.true_eq_false, Bool.false_eq_true, gT0, gT1, gT2, gT3, gT4, gT5, gT6, gF0, gF1, gF2, gF3, gF4, gS0, gS1, gC0, gC1, iT, iF, iS, iC, sT6_0, sT6_1, sF2, sF3, sF4_0, sF4_1, sS1, sC1, gO0 hp8, gO1 hp8, gO2 hp8, gO3 hp8, gL0 hp8, gL1 hp8, gL2 hp8, gL3 hp8, gL4 hp8, gL5 hp8, gL6 hp8, iO hp8, iL hp8, sL4 hp8, sL5 hp8, sL6 hp8, c28 hp8 hLp, hk, oI_s]
  simp only [s83_39, s83_42, s83_42n, s83_43, s83_46, Option.bind_some, Option.bind_none, Option.toList_some, Option.toList_none, List.nil_append, List.cons_append, ↓reduceIte, reduceCtorEq, cl1_i, cl1_r, cl1_n, cl1_0, cl1_J, okS_0, okS_1, okS_2, okS_3, okS_4, bB_0, bB_and, z_0, z_1, z_10, bB_t, bB_f, Bool.true_eq_false, Bool.false_eq_true, gT0, gT1, gT2, gT3, gT4, gT5, gT6, gF0, gF1, gF2, gF3, gF4, gS0, gS1, gC0, gC1, iT, iF, iS, iC, sT6_0, sT6_1, sF2, sF3, sF4_0, sF4_1, sS1, sC1, m1_nI' hk31, c43c]
  simp only [s83_49, s83_49n, s83_50, s83_53, s83_54, Option.bind_some, Option.bind_none, Option.toList_some, Option.toList_none, List.nil_append, List.cons_append, ↓reduceIte, reduceCtorEq, cl1_i, cl1_r, cl1_n, cl1_0, cl1_J, okS_0, okS_1, okS_2, okS_3, okS_4, bB_0, bB_and, z_0, z_1, z_10, bB_t, bB_f, Bool.true_eq_false, Bool.false_eq_true, gT0, gT1, gT2, gT3, gT4, gT5, gT6, gF0, gF1, gF2, gF3, gF4, gS0, gS1, gC0, gC1, iT, iF, iS, iC, sT6_0, sT6_1, sF2, sF3, sF4_0, sF4_1, sS1, sC1, c49c (show ([] : List Int32).length + 2 ≤ 64 by decide), List.nil_append]
  simp only [s83_57, s83_57n, s83_58, s83_58n, s83_59, s83_62, Option.bind_some, Option.bind_none, Option.toList_some, Option.toList_none, List.nil_append, List.cons_append, ↓reduceIte, reduceCtorEq, cl1_i, cl1_r, cl1_n, cl1_0, cl1_J, okS_0, okS_1, okS_2, okS_3, okS_4, bB_0, bB_and, z_0, z_1, z_10, bB_t, bB_f, Bool.true_eq_false, Bool.false_eq_true, gT0, gT1, gT2, gT3, gT4, gT5, gT6, gF0, gF1, gF2, gF3, gF4, gS0, gS1, gC0, gC1, iT, iF, iS, iC, sT6_0, sT6_1, sF2, sF3, sF4_0, sF4_1, sS1, sC1, iO hp8, r5, encG]
/-- the source has it no more, or is not there -/
theorem k83B {F : FlS} (hX : IX f Lo) (hT : ThS Lo th) (hA : LiA Lo li) (hm8 : m < 8) (hmk : (lsO Lo m).2 = some (p, a)) (hn : (froS (lsO Lo) 0).testBit p = true → fiE (lsO Lo p).1 (nI a) = none) : ∃ z, RunM 83 [.ref 1, .ref (13 + 6 * m)] (hp sc (F) s c th be qu mo li mm) = Run 83 70 [some (.ref 1), some (.ref (13 + 6 * m)), some (.int (nI a)), z] [] (hp sc (F) s c th be qu mo li mm) := by
  have hL := hA m hm8
  have hMk := (hX.okL hm8).2.2.2 _ hmk
  have hp8 : p < 8 := hMk.1
  have hLM := hL.2.2.2
  rw [hmk] at hLM
  have e1 : (li m).2.2.2.2.2.1 = nI p := hLM.1
  have e2 : (li m).2.2.2.2.2.2 = nI a := hLM.2
  cases hpb : (froS (lsO Lo) 0).testBit p with
  | false =>
    refine ⟨some .null, ?_⟩
    simp only [e83, s83_0, s83_0n, s83_1, s83_1n, s83_6, s83_6n, s83_7, s83_10, s83_13, s83_14, s83_14n, s83_15, s83_15n, s83_16, s83_19, s83_22, Option.bind_some, Option.bind_none, Option.toList_some, Option.toList_none, List.nil_append, List.cons_append, ↓reduceIte, reduceCtorEq, cl1_i, cl1_r, cl1_n, cl1_0, cl1_J, okS_0, okS_1, okS_2, okS_3, okS_4, bB_0, bB_and, z_0, z_1, z_10, bB_t, bB_f, Bool.true_eq_false, Bool.false_eq_true, gT0, gT1, gT2, gT3, gT4, gT5, gT6, gF0, gF1, gF2, gF3, gF4, gS0, gS1, gC0, gC1, iT, iF, iS, iC, sT6_0, sT6_1, sF2, sF3, sF4_0, sF4_1, sS1, sC1, gO0 hm8, gO1 hm8, gO2 hm8, gO3 hm8, gL0 hm8, gL1 hm8, gL2 hm8, gL3 hm8, gL4 hm8, gL5 hm8, gL6 hm8, iO hm8, iL hm8, sL4 hm8, sL5 hm8, sL6 hm8, e1, e2, c77n hT (show tIn Lo (nI p) = false by rw [tIn_nI hp8, hpb])]
    simp only [s83_25, s83_25n, s83_26, s83_26n, s83_27, s83_27n, Option.bind_some, Option.bind_none, Option.toList_some, Option.toList_none, List.nil_append, List.cons_append, ↓reduceIte, reduceCtorEq, cl1_i, cl1_r, cl1_n, cl1_0, cl1_J, okS_0, okS_1, okS_2, okS_3, okS_4, bB_0, bB_and, z_0, z_1, z_10, bB_t, bB_f, Bool.true_eq_false, Bool.false_eq_true, gT0, gT1, gT2, gT3, gT4, gT5, gT6, gF0, gF1, gF2, gF3, gF4, gS0, gS1, gC0, gC1, iT, iF, iS, iC, sT6_0, sT6_1, sF2, sF3, sF4_0, sF4_1, sS1, sC1]
  | true =>
    have hLp := hA p hp8
    refine ⟨some (.ref (13 + 6 * p)), ?_⟩
    simp only [e83, s83_0, s83_0n, s83_1, s83_1n, s83_6, s83_6n, s83_7, s83_10, s83_13, s83_14, s83_14n, s83_15, s83_15n, s83_16, s83_19, s83_22, Option.bind_some, Option.bind_none, Option.toList_some, Option.toList_none, List.nil_append, List.cons_append, ↓reduceIte, reduceCtorEq, cl1_i, cl1_r, cl1_n, cl1_0, cl1_J, okS_0, okS_1, okS_2, okS_3, okS_4, bB_0, bB_and, z_0, z_1, z_10, bB_t, bB_f, Bool.true_eq_false, Bool.false_eq_true, gT0, gT1, gT2, gT3, gT4, gT5, gT6, gF0, gF1, gF2, gF3, gF4, gS0, gS1, gC0, gC1, iT, iF, iS, iC, sT6_0, sT6_1, sF2, sF3, sF4_0, sF4_1, sS1, sC1, gO0 hm8, gO1 hm8, gO2 hm8, gO3 hm8, gL0 hm8, gL1 hm8, gL2 hm8, gL3 hm8, gL4 hm8, gL5 hm8, gL6 hm8, iO hm8, iL hm8, sL4 hm8, sL5 hm8, sL6 hm8, e1, e2, c77y hT hp8 hpb]
    simp only [s83_25, s83_25n, s83_26, s83_26n, s83_27, s83_27n, s83_30, s83_30n, s83_31, s83_34, s83_35, s83_38, Option.bind_some, Option.bind_none, Option.toList_some, Option.toList_none, List.nil_append, List.cons_append, ↓reduceIte, reduceCtorEq, cl1_i, cl1_r, cl1_n, cl1_0, cl1_J, okS_0, okS_1, okS_2, okS_3, okS_4, bB_0, bB_and, z_0, z_1, z_10, bB_t, bB_f, Bool.true_eq_false, Bool.false_eq_true, gT0, gT1, gT2, gT3, gT4, gT5, gT6, gF0, gF1, gF2, gF3, gF4, gS0, gS1, gC0, gC1, iT, iF, iS, iC, sT6_0, sT6_1, sF2, sF3, sF4_0, sF4_1, sS1, sC1, gO0 hp8, gO1 hp8, gO2 hp8, gO3 hp8, gL0 hp8, gL1 hp8, gL2 hp8, gL3 hp8, gL4 hp8, gL5 hp8, gL6 hp8, iO hp8, iL hp8, sL4 hp8, sL5 hp8, sL6 hp8, c28 hp8 hLp, hn hpb, oI_n]
    simp only [s83_39, Option.bind_some, Option.bind_none, Option.toList_some, Option.toList_none, List.nil_append, List.cons_append, ↓reduceIte, reduceCtorEq, cl1_i, cl1_r, cl1_n, cl1_0, cl1_J, okS_0, okS_1, okS_2, okS_3, okS_4, bB_0, bB_and, z_0, z_1, z_10, bB_t, bB_f, Bool.true_eq_false, Bool.false_eq_true, gT0, gT1, gT2, gT3, gT4, gT5, gT6, gF0, gF1, gF2, gF3, gF4, gS0, gS1, gC0, gC1, iT, iF, iS, iC, sT6_0, sT6_1, sF2, sF3, sF4_0, sF4_1, sS1, sC1, m1m1]
/-- the mark goes -/
theorem k83C (hX : IX f Lo) (hA : LiA Lo li) (hm8 : m < 8) {st : Lst} (hst : Lo m = some st) {y : Int32} {z : Option Value} : ∃ l' s', Run 83 70 [some (.ref 1), some (.ref (13 + 6 * m)), some (.int y), z] [] (hp sc (fB f) s c th be qu mo li mm) = some (some (.int (bB (cmq f m nmO st).1)), (hp sc (fB (cmq f m nmO st).2) (s') (opf c.1 (encS nmO)) th be qu mo (upL li m l') mm)) ∧ LiR l' (apS st nmO).1 (apS st nmO).2 := by
  have hLm := hA m hm8
  rw [lsO_of hst] at hLm
  obtain ⟨l', s', r5, r6⟩ := c17q (sc := sc) (s := s) (th := th) (be := be) (qu := qu) (mo := mo) (mm := mm) (li := li) hX hm8 hst hLm (FitN st) (by rw [encN]; decide) (j := c.1)
  refine ⟨l', s', ?_, r6⟩
  rw [encN] at r5
  simp only [s83_70, s83_70n, s83_71, s83_74, Option.bind_some, Option.bind_none, Option.toList_some, Option.toList_none, List.nil_append, List.cons_append, ↓reduceIte, reduceCtorEq, cl1_i, cl1_r, cl1_n, cl1_0, cl1_J, okS_0, okS_1, okS_2, okS_3, okS_4, bB_0, bB_and, z_0, z_1, z_10, bB_t, bB_f, Bool.true_eq_false, Bool.false_eq_true, gT0, gT1, gT2, gT3, gT4, gT5, gT6, gF0, gF1, gF2, gF3, gF4, gS0, gS1, gC0, gC1, iT, iF, iS, iC, sT6_0, sT6_1, sF2, sF3, sF4_0, sF4_1, sS1, sC1, c43c]
  simp only [s83_77, s83_77n, s83_78, s83_81, Option.bind_some, Option.bind_none, Option.toList_some, Option.toList_none, List.nil_append, List.cons_append, ↓reduceIte, reduceCtorEq, cl1_i, cl1_r, cl1_n, cl1_0, cl1_J, okS_0, okS_1, okS_2, okS_3, okS_4, bB_0, bB_and, z_0, z_1, z_10, bB_t, bB_f, Bool.true_eq_false, Bool.false_eq_true, gT0, gT1, gT2, gT3, gT4, gT5, gT6, gF0, gF1, gF2, gF3, gF4, gS0, gS1, gC0, gC1, iT, iF, iS, iC, sT6_0, sT6_1, sF2, sF3, sF4_0, sF4_1, sS1, sC1, c51c (show ([] : List Int32).length + 1 ≤ 64 by decide), List.nil_append]
  simp only [s83_84, s83_84n, s83_85, s83_85n, s83_86, s83_89, Option.bind_some, Option.bind_none, Option.toList_some, Option.toList_none, List.nil_append, List.cons_append, ↓reduceIte, reduceCtorEq, cl1_i, cl1_r, cl1_n, cl1_0, cl1_J, okS_0, okS_1, okS_2, okS_3, okS_4, bB_0, bB_and, z_0, z_1, z_10, bB_t, bB_f, Bool.true_eq_false, Bool.false_eq_true, gT0, gT1, gT2, gT3, gT4, gT5, gT6, gF0, gF1, gF2, gF3, gF4, gS0, gS1, gC0, gC1, iT, iF, iS, iC, sT6_0, sT6_1, sF2, sF3, sF4_0, sF4_1, sS1, sC1, iO hm8, r5]
  simp only [s83_92, Option.bind_some, Option.bind_none, Option.toList_some, Option.toList_none, List.nil_append, List.cons_append, ↓reduceIte, reduceCtorEq, cl1_i, cl1_r, cl1_n, cl1_0, cl1_J, okS_0, okS_1, okS_2, okS_3, okS_4, bB_0, bB_and, z_0, z_1, z_10, bB_t, bB_f, Bool.true_eq_false, Bool.false_eq_true, gT0, gT1, gT2, gT3, gT4, gT5, gT6, gF0, gF1, gF2, gF3, gF4, gS0, gS1, gC0, gC1, iT, iF, iS, iC, sT6_0, sT6_1, sF2, sF3, sF4_0, sF4_1, sS1, sC1, encN]
end FINC
section FINM
variable {sc : AC} {F : FlS} {s c : OpS} {th be qu : Nat → Int32} {mo : Int32} {li : Nat → LiS} {f : FB} {mt : Bool} {jl : Int32} {R : RgS} {O A : OpS} {Lo : LO} {q m p a : Nat} {s0 : Nat}
theorem k113 (hX : IX f Lo) (hs : s0 < 256) : ∀ (n q : Nat) (R : RgS) (z3 z4 z5 z6 : Option Value), q + n ≤ 8 → (∀ x, q ≤ x → x < q + n → s0.testBit x = true → (lsO Lo x).2 = none) → ∃ R' z3' z4' z5' z6', Run 113 34 [some (.ref 61), some (.int (nI s0)), some (.int (nI q)), z3, z4, z5, z6] [] (hp sc F s c th be qu mo li (hM (mS f mt jl R O A))) = Run 113 34 [some (.ref 61), some (.int (nI s0)), some (.int (nI (q + n))), z3', z4', z5', z6'] [] (hp sc F s c th be qu mo li (hM (mS f mt jl (R') O A))) := by
  intro n
  induction n with
  | zero => intro q R z3 z4 z5 z6 h1 h2; exact ⟨R, z3, z4, z5, z6, rfl⟩
  | succ n ih =>
    intro q R z3 z4 z5 z6 h1 h2
    have hq : q < 8 := by omega
    have h3 : nI q < 8 := nI_lit (k := 8) hq (by decide)
    cases hb : s0.testBit q with
    | false =>
      obtain ⟨R', w3, w4, w5, w6, r1⟩ := ih (q + 1) R z3 z4 z5 z6 (by omega) (fun x hx1 hx2 => h2 x (by omega) (by omega))
      refine ⟨R', w3, w4, w5, w6, ?_⟩
      have hz : ¬ (0 : Int32) = 1 := by decide
      rw [show q + (n + 1) = q + 1 + n by omega, ← r1, s113_34]
      simp only [s113_35, s113_37, s113_40, s113_41, s113_42, s113_43, s113_44, s113_45, s113_46, s113_177, s113_180, Option.bind_some, Option.bind_none, Option.toList_some, Option.toList_none, List.nil_append, List.cons_append, ↓reduceIte, reduceCtorEq, cl1_i, cl1_r, cl1_n, cl1_0, cl1_J, okS_0, okS_1, okS_2, okS_3, okS_4, bB_0, bB_and, z_0, z_1, z_10, bB_t, bB_f, Bool.true_eq_false, Bool.false_eq_true, gT0, gT1, gT2, gT3, gT4, gT5, gT6, gF0, gF1, gF2, gF3, gF4, gS0, gS1, gC0, gC1, iT, iF, iS, iC, sT6_0, sT6_1, sF2, sF3, sF4_0, sF4_1, sS1, sC1, h3, tst_bit _ hs _ hq, hb, hz, nI_1]
    | true =>
      obtain ⟨R1, r2, r3⟩ := c101q (sc := sc) (F := F) (s := s) (c := c) (th := th) (be := be) (qu := qu) (mo := mo) (li := li) (f := f) (mt := mt) (jl := jl) (R := R) (O := O) (A := A) hX hq
      have hmk := h2 q (Nat.le_refl _) (by omega) hb
      have h9 := r3.2.2.2
      rw [hmk] at h9
      have h9' : R1.2.2.2.1 = 0 := h9
      obtain ⟨R', w3, w4, w5, w6, r1⟩ := ih (q + 1) R1 (some (.int (oI (act f q)))) (some (.int R1.2.2.1)) (some (.int 0)) z6 (by omega) (fun x hx1 hx2 => h2 x (by omega) (by omega))
      refine ⟨R', w3, w4, w5, w6, ?_⟩
      rw [show q + (n + 1) = q + 1 + n by omega, ← r1, s113_34]
      simp only [s113_35, s113_37, s113_40, s113_41, s113_42, s113_43, s113_44, s113_45, s113_46, s113_49, s113_49n, s113_50, Option.bind_some, Option.bind_none, Option.toList_some, Option.toList_none, List.nil_append, List.cons_append, ↓reduceIte, reduceCtorEq, cl1_i, cl1_r, cl1_n, cl1_0, cl1_J, okS_0, okS_1, okS_2, okS_3, okS_4, bB_0, bB_and, z_0, z_1, z_10, bB_t, bB_f, Bool.true_eq_false, Bool.false_eq_true, gT0, gT1, gT2, gT3, gT4, gT5, gT6, gF0, gF1, gF2, gF3, gF4, gS0, gS1, gC0, gC1, iT, iF, iS, iC, sT6_0, sT6_1, sF2, sF3, sF4_0, sF4_1, sS1, sC1, gM0, gM1, gM2, gM3, gM4, gM5, gM6, gM7, gM8, gM9, gM10, gM11, gM12, gM13, gM14, gM15, gM16, gM17, gM18, iM, sM5, sM6, sM11, sM12, sM13, sM14, sM16, sM18, sM2_0, sM2_1, sM3_0, sM3_1, sM4_0, sM4_1, mS_0, mS_1, mS_2, mS_3, mS_4, mS_5, mS_6, mS_7, mS_8, mS_9, mS_10, mS_11, mS_12, mS_13, mS_14, mS_15, mS_16, mS_17, mS_18, decide_true, decide_false, Bool.not_true, Bool.not_false, h3, tst_bit _ hs _ hq, hb]
      simp only [s113_51, s113_54, s113_55, s113_55n, s113_56, s113_59, s113_61, s113_61n, s113_62, s113_65, s113_67, s113_69, s113_177, s113_180, Option.bind_some, Option.bind_none, Option.toList_some, Option.toList_none, List.nil_append, List.cons_append, ↓reduceIte, reduceCtorEq, cl1_i, cl1_r, cl1_n, cl1_0, cl1_J, okS_0, okS_1, okS_2, okS_3, okS_4, bB_0, bB_and, z_0, z_1, z_10, bB_t, bB_f, Bool.true_eq_false, Bool.false_eq_true, gT0, gT1, gT2, gT3, gT4, gT5, gT6, gF0, gF1, gF2, gF3, gF4, gS0, gS1, gC0, gC1, iT, iF, iS, iC, sT6_0, sT6_1, sF2, sF3, sF4_0, sF4_1, sS1, sC1, gM0, gM1, gM2, gM3, gM4, gM5, gM6, gM7, gM8, gM9, gM10, gM11, gM12, gM13, gM14, gM15, gM16, gM17, gM18, iM, sM5, sM6, sM11, sM12, sM13, sM14, sM16, sM18, sM2_0, sM2_1, sM3_0, sM3_1, sM4_0, sM4_1, mS_0, mS_1, mS_2, mS_3, mS_4, mS_5, mS_6, mS_7, mS_8, mS_9, mS_10, mS_11, mS_12, mS_13, mS_14, mS_15, mS_16, mS_17, mS_18, decide_true, decide_false, Bool.not_true, Bool.not_false, r2, h9', z00, nI_1]
end FINM
