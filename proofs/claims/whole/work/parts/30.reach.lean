/-! ===== FlashTree: which folders are there ===== -/
/-- the pairs of a folder's folders -/
def kids (es : List En) : List Nat := es.filterMap fun e => if e.2.1 = 2 then some e.2.2.1 else none
theorem kids_mem {es : List En} {x : Nat} : x ∈ kids es ↔ ∃ e ∈ es, e.2.1 = 2 ∧ e.2.2.1 = x := by
  unfold kids
  rw [List.mem_filterMap]
  constructor
  · rintro ⟨e, he, h⟩
    split at h
    · rename_i h2
      cases h
      exact ⟨e, he, h2, rfl⟩
    · cases h
  · rintro ⟨e, he, h1, h2⟩
    exact ⟨e, he, by rw [if_pos h1, h2]⟩
def RchN (Ls : Nat → Lst) (a : Nat) : Nat → Nat → Prop
  | 0, x => x = a
  | n + 1, x => ∃ y, RchN Ls a n y ∧ x ∈ kids (Ls y).1
def Rch (Ls : Nat → Lst) (a x : Nat) : Prop := ∃ n, RchN Ls a n x
theorem Rch.rf {Ls : Nat → Lst} {a : Nat} : Rch Ls a a := ⟨0, rfl⟩
theorem Rch.step {Ls : Nat → Lst} {a x y : Nat} (h : Rch Ls a x) (hy : y ∈ kids (Ls x).1) : Rch Ls a y := by
  obtain ⟨n, hn⟩ := h
  exact ⟨n + 1, x, hn, hy⟩
/-- a set that holds a and is closed holds all that is reached -/
theorem Rch.in {Ls : Nat → Lst} {a : Nat} {P : Nat → Prop} (h0 : P a) (hc : ∀ x, P x → ∀ y ∈ kids (Ls x).1, P y) : ∀ {x}, Rch Ls a x → P x := by
  rintro x ⟨n, hn⟩
  induction n generalizing x with
  | zero => rw [hn]; exact h0
  | succ n ih =>
    obtain ⟨y, h1, h2⟩ := hn
    exact hc y (ih h1) x h2
theorem pigeon : ∀ (n : Nat) (l : List Nat), l.Nodup → (∀ x ∈ l, x < n) → l.length ≤ n := by
  intro n
  induction n with
  | zero =>
    intro l h1 h2
    cases l with
    | nil => simp
    | cons a t => exact absurd (h2 a List.mem_cons_self) (by omega)
  | succ n ih =>
    intro l h1 h2
    have h3 := ih (l.erase n) (h1.erase n) (fun x hx => by
      have hx1 := List.mem_of_mem_erase hx
      have hx2 := h2 x hx1
      have hx3 : x ≠ n := fun e => by
        subst e
        exact (List.Nodup.not_mem_erase h1) hx
      omega)
    have h4 : l.length ≤ (l.erase n).length + 1 := by
      rw [List.length_erase]
      split <;> omega
    omega
def hx (v : Bool) (sc : AC) (F : FlS) (s c : OpS) (t t2 qu : Nat → Int32) (mo : Int32) (li : Nat → LiS) (mm : AH) : AH := match v with
  | false => hp sc F s c t t2 qu mo li mm
  | true => hp sc F s c t2 t qu mo li mm
def ax (v : Bool) : Nat := match v with
  | false => 8
  | true => 9
section TREE0
variable {sc : AC} {f : FB} {s c : OpS} {th be qu : Nat → Int32} {mo : Int32} {li : Nat → LiS} {mm : AH} {q : Nat}
theorem c74 {x : Int32} {h : AH} : RunM 74 [.int x] h = some (some (.int (bB (decide (1 ≤ x.toInt) && decide (x.toInt ≤ 99)))), h) := by
  have e1 : (1 : Int32).toInt = 1 := by decide
  have e2 : (99 : Int32).toInt = 99 := by decide
  simp only [e74, s74_0, s74_1, s74_2, s74_5, s74_6, s74_8, s74_11, s74_12, s74_15, s74_16, Option.bind_some, Option.bind_none, Option.toList_some, Option.toList_none, List.nil_append, List.cons_append, ↓reduceIte, reduceCtorEq, cl1_i, cl1_r, cl1_n, cl1_0, cl1_J, okS_0, okS_1, okS_2, okS_3, okS_4, bB_0, bB_and, z_0, z_1, z_10, bB_t, bB_f, Bool.true_eq_false, Bool.false_eq_true, gT0, gT1, gT2, gT3, gT4, gT5, gT6, gF0, gF1, gF2, gF3, gF4, gS0, gS1, gC0, gC1, iT, iF, iS, iC, sT6_0, sT6_1, sF2, sF3, sF4_0, sF4_1, sS1, sC1]
  by_cases h1 : x < 1
  · rw [if_pos h1]
    rw [Int32.lt_iff_toInt_lt, e1] at h1
    rw [decide_eq_false (by omega)]
    rfl
  · rw [if_neg h1]
    rw [Int32.lt_iff_toInt_lt, e1] at h1
    by_cases h2 : 99 < x
    · rw [if_pos h2]
      rw [Int32.lt_iff_toInt_lt, e2] at h2
      rw [decide_eq_true (by omega), decide_eq_false (by omega)]
      rfl
    · rw [if_neg h2]
      rw [Int32.lt_iff_toInt_lt, e2] at h2
      rw [decide_eq_true (by omega), decide_eq_true (by omega)]
      rfl
theorem c75 {b : Int32} {h : AH} : RunM 75 [.int b] h = some (some (.int (bB (inB b 8))), h) := by
  simp only [e75, s75_0, s75_1, s75_4, s75_5, s75_7, s75_10, s75_11, s75_14, s75_15, Option.bind_some, Option.bind_none, Option.toList_some, Option.toList_none, List.nil_append, List.cons_append, ↓reduceIte, reduceCtorEq, cl1_i, cl1_r, cl1_n, cl1_0, cl1_J, okS_0, okS_1, okS_2, okS_3, okS_4, bB_0, bB_and, z_0, z_1, z_10, bB_t, bB_f, Bool.true_eq_false, Bool.false_eq_true, gT0, gT1, gT2, gT3, gT4, gT5, gT6, gF0, gF1, gF2, gF3, gF4, gS0, gS1, gC0, gC1, iT, iF, iS, iC, sT6_0, sT6_1, sF2, sF3, sF4_0, sF4_1, sS1, sC1]
  by_cases h1 : b < 0
  · rw [if_pos h1, inB_f1 h1]; rfl
  · by_cases h2 : b < 8
    · rw [if_neg h1, if_pos h2, inB_t (n := 8) rfl h1 h2]; rfl
    · rw [if_neg h1, if_neg h2, inB_f2 (n := 8) rfl h2]; rfl
theorem c76 {F : FlS} (hq : q < 8) : RunM 76 [.ref 1, .int (nI q)] (hp sc F s c th be qu mo li mm) = some (some (.ref (13 + 6 * q)), hp sc F s c th be qu mo li mm) := by
  simp only [e76, s76_0, s76_1, s76_4, s76_7, s76_7n, s76_8, s76_11, s76_12, s76_13, s76_16, s76_17, s76_17n, Option.bind_some, Option.bind_none, Option.toList_some, Option.toList_none, List.nil_append, List.cons_append, ↓reduceIte, reduceCtorEq, cl1_i, cl1_r, cl1_n, cl1_0, cl1_J, okS_0, okS_1, okS_2, okS_3, okS_4, bB_0, bB_and, z_0, z_1, z_10, bB_t, bB_f, Bool.true_eq_false, Bool.false_eq_true, gT0, gT1, gT2, gT3, gT4, gT5, gT6, gF0, gF1, gF2, gF3, gF4, gS0, gS1, gC0, gC1, iT, iF, iS, iC, sT6_0, sT6_1, sF2, sF3, sF4_0, sF4_1, sS1, sC1, c75, inB_nI hq (show 8 < 2 ^ 31 by decide), a7 hq]
theorem c76n {F : FlS} {x : Int32} (h : inB x 8 = false) : RunM 76 [.ref 1, .int x] (hp sc F s c th be qu mo li mm) = some (some .null, hp sc F s c th be qu mo li mm) := by
  simp only [e76, s76_0, s76_1, s76_4, s76_7, s76_7n, s76_8, s76_11, s76_12, s76_13, s76_16, s76_17, s76_17n, Option.bind_some, Option.bind_none, Option.toList_some, Option.toList_none, List.nil_append, List.cons_append, ↓reduceIte, reduceCtorEq, cl1_i, cl1_r, cl1_n, cl1_0, cl1_J, okS_0, okS_1, okS_2, okS_3, okS_4, bB_0, bB_and, z_0, z_1, z_10, bB_t, bB_f, Bool.true_eq_false, Bool.false_eq_true, gT0, gT1, gT2, gT3, gT4, gT5, gT6, gF0, gF1, gF2, gF3, gF4, gS0, gS1, gC0, gC1, iT, iF, iS, iC, sT6_0, sT6_1, sF2, sF3, sF4_0, sF4_1, sS1, sC1, c75, h]
end TREE0
section REACH
variable {sc : AC} {F : FlS} {s c : OpS} {t t2 qu : Nat → Int32} {mo : Int32} {li : Nat → LiS} {mm : AH} {v : Bool} {i : Int32} {q : Nat}
theorem iTx : isO (hx v sc F s c t t2 qu mo li mm) 1 4 = true := by cases v <;> exact iT
theorem gT4x : fld (hx v sc F s c t t2 qu mo li mm) 1 4 4 = some (.ref 10) := by cases v <;> exact gT4
theorem gO3x (hq : q < 8) : fld (hx v sc F s c t t2 qu mo li mm) (13 + 6 * q) 1 3 = some (.ref (14 + 6 * q)) := by cases v <;> exact gO3 hq
theorem iLx (hq : q < 8) : isO (hx v sc F s c t t2 qu mo li mm) (14 + 6 * q) 2 = true := by cases v <;> exact iL hq
theorem laX : aln (hx v sc F s c t t2 qu mo li mm) (ax v) = some 8 := by cases v <;> rfl
theorem aX (hi : inB i 8 = true) : ald (hx v sc F s c t t2 qu mo li mm) (ax v) .boolean i = some (.int (t i.toNatClampNeg)) := by cases v with | false => exact a8 hi | true => exact a9 hi
theorem tX0 (hi : inB i 8 = true) : ast (hx v sc F s c t t2 qu mo li mm) (ax v) .boolean i (.int 0) = some (hx v sc F s c (upd t i.toNatClampNeg 0) t2 qu mo li mm) := by cases v with | false => exact t8_0 hi | true => exact t9_0 hi
theorem tX1 (hi : inB i 8 = true) : ast (hx v sc F s c t t2 qu mo li mm) (ax v) .boolean i (.int 1) = some (hx v sc F s c (upd t i.toNatClampNeg 1) t2 qu mo li mm) := by cases v with | false => exact t8_1 hi | true => exact t9_1 hi
theorem aQx (hi : inB i 8 = true) : ald (hx v sc F s c t t2 qu mo li mm) 10 .int i = some (.int (qu i.toNatClampNeg)) := by cases v <;> exact a10 hi
theorem tQx {y : Int32} (hi : inB i 8 = true) : ast (hx v sc F s c t t2 qu mo li mm) 10 .int i (.int y) = some (hx v sc F s c t t2 (upd qu i.toNatClampNeg y) mo li mm) := by cases v <;> exact t10 hi
theorem c76x (hq : q < 8) : RunM 76 [.ref 1, .int (nI q)] (hx v sc F s c t t2 qu mo li mm) = some (some (.ref (13 + 6 * q)), hx v sc F s c t t2 qu mo li mm) := by cases v <;> exact c76 hq
theorem c32x {es : List En} {mk : Option (Nat × Nat)} (hq : q < 8) (hL : LiR (li q) es mk) {k : Int32} : RunM 32 [.ref (14 + 6 * q), .int k] (hx v sc F s c t t2 qu mo li mm) = some (some (.int ((eAt es k).elim (-1) enPr)), hx v sc F s c t t2 qu mo li mm) := by cases v <;> exact c32 hq hL
theorem c81_init {a : Nat} (ha : a < 8) : ∀ (d i : Nat) (t : Nat → Int32), i + d = 8 → (∀ k, k < i → t k = bB (decide (k = a))) → ∃ t', Run 81 2 [some (.ref 1), some (.int (nI a)), some (.ref (ax v)), some (.int (nI i)), none, none, none, none] [] (hx v sc F s c t t2 qu mo li mm) = Run 81 33 [some (.ref 1), some (.int (nI a)), some (.ref (ax v)), some (.int 8), none, none, none, none] [] (hx v sc F s c t' t2 qu mo li mm) ∧ ∀ k, k < 8 → t' k = bB (decide (k = a)) := by
  intro d
  induction d with
  | zero =>
    intro i t h1 h2
    obtain rfl : i = 8 := by omega
    refine ⟨t, ?_, h2⟩
    have h3 : ¬ nI 8 < 8 := by decide
    have h4 : nI 8 = 8 := rfl
    simp only [s81_2, s81_3, s81_5, Option.bind_some, Option.bind_none, Option.toList_some, Option.toList_none, List.nil_append, List.cons_append, ↓reduceIte, reduceCtorEq, cl1_i, cl1_r, cl1_n, cl1_0, cl1_J, okS_0, okS_1, okS_2, okS_3, okS_4, bB_0, bB_and, z_0, z_1, z_10, bB_t, bB_f, Bool.true_eq_false, Bool.false_eq_true, gT0, gT1, gT2, gT3, gT4, gT5, gT6, gF0, gF1, gF2, gF3, gF4, gS0, gS1, gC0, gC1, iT, iF, iS, iC, sT6_0, sT6_1, sF2, sF3, sF4_0, sF4_1, sS1, sC1, h3]
    rw [h4]
  | succ d ih =>
    intro i t h1 h2
    have h3 : nI i < 8 := nI_lit (k := 8) (by omega) (by decide)
    have hi : inB (nI i) 8 = true := inB_nI (by omega) (by decide)
    have hcl : (nI i).toNatClampNeg = i := nI_clamp (by omega)
    by_cases hia : i = a
    · subst hia
      obtain ⟨t', r1, r2⟩ := ih (i + 1) (upd t i 1) (by omega) (fun k hk => by
        by_cases hki : k = i
        · subst hki; simp [upd, bB]
        · simp only [upd, if_neg hki]; exact h2 k (by omega))
      refine ⟨t', ?_, r2⟩
      rw [← r1]
      rw [s81_2]
      simp only [s81_3, s81_5, Option.bind_some, Option.bind_none, Option.toList_some, Option.toList_none, List.nil_append, List.cons_append, ↓reduceIte, reduceCtorEq, cl1_i, cl1_r, cl1_n, cl1_0, cl1_J, okS_0, okS_1, okS_2, okS_3, okS_4, bB_0, bB_and, z_0, z_1, z_10, bB_t, bB_f, Bool.true_eq_false, Bool.false_eq_true, gT0, gT1, gT2, gT3, gT4, gT5, gT6, gF0, gF1, gF2, gF3, gF4, gS0, gS1, gC0, gC1, iT, iF, iS, iC, sT6_0, sT6_1, sF2, sF3, sF4_0, sF4_1, sS1, sC1, h3]
      simp only [s81_8, s81_9, s81_9n, s81_10, s81_11, s81_14, s81_14n, s81_15, s81_16, s81_17, s81_18, s81_21, s81_22, s81_25, s81_26, s81_27, s81_30, Option.bind_some, Option.bind_none, Option.toList_some, Option.toList_none, List.nil_append, List.cons_append, ↓reduceIte, reduceCtorEq, cl1_i, cl1_r, cl1_n, cl1_0, cl1_J, okS_0, okS_1, okS_2, okS_3, okS_4, bB_0, bB_and, z_0, z_1, z_10, bB_t, bB_f, Bool.true_eq_false, Bool.false_eq_true, gT0, gT1, gT2, gT3, gT4, gT5, gT6, gF0, gF1, gF2, gF3, gF4, gS0, gS1, gC0, gC1, iT, iF, iS, iC, sT6_0, sT6_1, sF2, sF3, sF4_0, sF4_1, sS1, sC1, laX, h3, tX1 hi, hcl, nI_1]
    · have hne : ¬ nI i = nI a := fun e => hia ((nI_eq (by omega) (by omega)).mp e)
      obtain ⟨t', r1, r2⟩ := ih (i + 1) (upd t i 0) (by omega) (fun k hk => by
        by_cases hki : k = i
        · subst hki; simp [upd, bB, hia]
        · simp only [upd, if_neg hki]; exact h2 k (by omega))
      refine ⟨t', ?_, r2⟩
      rw [← r1]
      rw [s81_2]
      simp only [s81_3, s81_5, Option.bind_some, Option.bind_none, Option.toList_some, Option.toList_none, List.nil_append, List.cons_append, ↓reduceIte, reduceCtorEq, cl1_i, cl1_r, cl1_n, cl1_0, cl1_J, okS_0, okS_1, okS_2, okS_3, okS_4, bB_0, bB_and, z_0, z_1, z_10, bB_t, bB_f, Bool.true_eq_false, Bool.false_eq_true, gT0, gT1, gT2, gT3, gT4, gT5, gT6, gF0, gF1, gF2, gF3, gF4, gS0, gS1, gC0, gC1, iT, iF, iS, iC, sT6_0, sT6_1, sF2, sF3, sF4_0, sF4_1, sS1, sC1, h3]
      simp only [s81_8, s81_9, s81_9n, s81_10, s81_11, s81_14, s81_14n, s81_15, s81_16, s81_17, s81_18, s81_21, s81_22, s81_25, s81_26, s81_27, s81_30, Option.bind_some, Option.bind_none, Option.toList_some, Option.toList_none, List.nil_append, List.cons_append, ↓reduceIte, reduceCtorEq, cl1_i, cl1_r, cl1_n, cl1_0, cl1_J, okS_0, okS_1, okS_2, okS_3, okS_4, bB_0, bB_and, z_0, z_1, z_10, bB_t, bB_f, Bool.true_eq_false, Bool.false_eq_true, gT0, gT1, gT2, gT3, gT4, gT5, gT6, gF0, gF1, gF2, gF3, gF4, gS0, gS1, gC0, gC1, iT, iF, iS, iC, sT6_0, sT6_1, sF2, sF3, sF4_0, sF4_1, sS1, sC1, laX, h3, hne, tX0 hi, hcl, nI_1]
/-- the queue and the set hold Q -/
def QuI (t qu : Nat → Int32) (Q : List Nat) : Prop := Q.Nodup ∧ (∀ x ∈ Q, x < 8) ∧ (∀ k, k < 8 → t k = bB (decide (k ∈ Q))) ∧ ∀ (k x : Nat), Q[k]? = some x → qu k = nI x
theorem QuI.len {t qu : Nat → Int32} {Q : List Nat} (h : QuI t qu Q) : Q.length ≤ 8 := pigeon 8 Q h.1 h.2.1
theorem c81_in {a nxt x : Nat} (hx8 : x < 8) {es : List En} {mk : Option (Nat × Nat)} (hL : LiR (li x) es mk) (hn8 : nxt < 8) : ∀ (d k : Nat) (t qu : Nat → Int32) (Q : List Nat) (z : Option Value), k + d = 4 → QuI t qu Q → ∃ t' qu' Q' z', Run 81 74 [some (.ref 1), some (.int (nI a)), some (.ref (ax v)), some (.int (nI Q.length)), some (.int (nI nxt)), some (.ref (13 + 6 * x)), some (.int (nI k)), z] [] (hx v sc F s c t t2 qu mo li mm) = Run 81 45 [some (.ref 1), some (.int (nI a)), some (.ref (ax v)), some (.int (nI Q'.length)), some (.int (nI (nxt + 1))), some (.ref (13 + 6 * x)), some (.int 4), z'] [] (hx v sc F s c t' t2 qu' mo li mm) ∧ QuI t' qu' Q' ∧ (∃ R, Q' = Q ++ R ∧ ∀ y ∈ R, y ∈ kids es) ∧ ∀ (i : Nat) (e : En), k ≤ i → es[i]? = some e → e.2.1 = 2 → e.2.2.1 ∈ Q' := by
  intro d
  induction d with
  | zero =>
    intro k t qu Q z h1 hQ
    obtain rfl : k = 4 := by omega
    refine ⟨t, qu, Q, z, ?_, hQ, ⟨[], by simp, by simp⟩, fun i e hi he _ => ?_⟩
    · have h3 : ¬ nI 4 < 4 := by decide
      have h4 : nI 4 = 4 := rfl
      simp only [s81_74, s81_74n, s81_76, s81_76n, s81_79, s81_81, s81_82, Option.bind_some, Option.bind_none, Option.toList_some, Option.toList_none, List.nil_append, List.cons_append, ↓reduceIte, reduceCtorEq, cl1_i, cl1_r, cl1_n, cl1_0, cl1_J, okS_0, okS_1, okS_2, okS_3, okS_4, bB_0, bB_and, z_0, z_1, z_10, bB_t, bB_f, Bool.true_eq_false, Bool.false_eq_true, gT0, gT1, gT2, gT3, gT4, gT5, gT6, gF0, gF1, gF2, gF3, gF4, gS0, gS1, gC0, gC1, iT, iF, iS, iC, sT6_0, sT6_1, sF2, sF3, sF4_0, sF4_1, sS1, sC1, h3]
      simp only [s81_147, s81_150, Option.bind_some, Option.bind_none, Option.toList_some, Option.toList_none, List.nil_append, List.cons_append, ↓reduceIte, reduceCtorEq, cl1_i, cl1_r, cl1_n, cl1_0, cl1_J, okS_0, okS_1, okS_2, okS_3, okS_4, bB_0, bB_and, z_0, z_1, z_10, bB_t, bB_f, Bool.true_eq_false, Bool.false_eq_true, gT0, gT1, gT2, gT3, gT4, gT5, gT6, gF0, gF1, gF2, gF3, gF4, gS0, gS1, gC0, gC1, iT, iF, iS, iC, sT6_0, sT6_1, sF2, sF3, sF4_0, sF4_1, sS1, sC1, nI_1]
      rw [h4]
    · have := (List.getElem?_eq_some_iff.mp he).1
      have := hL.1
      omega
  | succ d ih =>
    intro k t qu Q z h1 hQ
    have h3 : nI k < 4 := nI_lit (k := 4) (by omega) (by decide)
    have skip : ∀ y : Int32, inB y 8 = false → (eAt es (nI k)).elim (-1) enPr = y → Run 81 74 [some (.ref 1), some (.int (nI a)), some (.ref (ax v)), some (.int (nI Q.length)), some (.int (nI nxt)), some (.ref (13 + 6 * x)), some (.int (nI k)), z] [] (hx v sc F s c t t2 qu mo li mm) = Run 81 74 [some (.ref 1), some (.int (nI a)), some (.ref (ax v)), some (.int (nI Q.length)), some (.int (nI nxt)), some (.ref (13 + 6 * x)), some (.int (nI (k + 1))), some (.int y)] [] (hx v sc F s c t t2 qu mo li mm) := by
      intro y hy he
      rw [s81_74]
      simp only [s81_76, s81_76n, s81_79, s81_81, s81_82, s81_85, s81_85n, s81_87, s81_90, s81_92, Option.bind_some, Option.bind_none, Option.toList_some, Option.toList_none, List.nil_append, List.cons_append, ↓reduceIte, reduceCtorEq, cl1_i, cl1_r, cl1_n, cl1_0, cl1_J, okS_0, okS_1, okS_2, okS_3, okS_4, bB_0, bB_and, z_0, z_1, z_10, bB_t, bB_f, Bool.true_eq_false, Bool.false_eq_true, gT0, gT1, gT2, gT3, gT4, gT5, gT6, gF0, gF1, gF2, gF3, gF4, gS0, gS1, gC0, gC1, iT, iF, iS, iC, sT6_0, sT6_1, sF2, sF3, sF4_0, sF4_1, sS1, sC1, h3, gO3x hx8, iLx hx8, c32x hx8 hL, he]
      simp only [s81_95, s81_97, s81_99, s81_102, Option.bind_some, Option.bind_none, Option.toList_some, Option.toList_none, List.nil_append, List.cons_append, ↓reduceIte, reduceCtorEq, cl1_i, cl1_r, cl1_n, cl1_0, cl1_J, okS_0, okS_1, okS_2, okS_3, okS_4, bB_0, bB_and, z_0, z_1, z_10, bB_t, bB_f, Bool.true_eq_false, Bool.false_eq_true, gT0, gT1, gT2, gT3, gT4, gT5, gT6, gF0, gF1, gF2, gF3, gF4, gS0, gS1, gC0, gC1, iT, iF, iS, iC, sT6_0, sT6_1, sF2, sF3, sF4_0, sF4_1, sS1, sC1, c75, hy]
      simp only [s81_141, s81_144, Option.bind_some, Option.bind_none, Option.toList_some, Option.toList_none, List.nil_append, List.cons_append, ↓reduceIte, reduceCtorEq, cl1_i, cl1_r, cl1_n, cl1_0, cl1_J, okS_0, okS_1, okS_2, okS_3, okS_4, bB_0, bB_and, z_0, z_1, z_10, bB_t, bB_f, Bool.true_eq_false, Bool.false_eq_true, gT0, gT1, gT2, gT3, gT4, gT5, gT6, gF0, gF1, gF2, gF3, gF4, gS0, gS1, gC0, gC1, iT, iF, iS, iC, sT6_0, sT6_1, sF2, sF3, sF4_0, sF4_1, sS1, sC1, nI_1]
    have hm : inB (-1) 8 = false := inB_f1 (by decide)
    cases he : es[k]? with
    | none =>
      have hk : es.length ≤ k := List.getElem?_eq_none_iff.mp he
      have hat : eAt es (nI k) = none := by
        unfold eAt
        rw [if_neg]
        rw [inB_no hk (by omega)]
        decide
      obtain ⟨t', qu', Q', z', r1, r2, r3, r4⟩ := ih (k + 1) t qu Q (some (.int (-1))) (by omega) hQ
      refine ⟨t', qu', Q', z', ?_, r2, r3, fun i e hi he2 hf => ?_⟩
      · rw [skip (-1) hm (by rw [hat]; rfl), r1]
      · by_cases hik : i = k
        · subst hik; rw [he] at he2; cases he2
        · exact r4 i e (by omega) he2 hf
    | some e =>
      have hk := (List.getElem?_eq_some_iff.mp he).1
      have hat : eAt es (nI k) = some e := by rw [eAt_nI hL.1 hk, he]
      have hok := (hL.2.2.1 k e he).2
      obtain ⟨-, -, hok | ⟨hok1, hok2, -⟩⟩ := hok
      · obtain ⟨t', qu', Q', z', r1, r2, r3, r4⟩ := ih (k + 1) t qu Q (some (.int (-1))) (by omega) hQ
        refine ⟨t', qu', Q', z', ?_, r2, r3, fun i e' hi he2 hf => ?_⟩
        · rw [skip (-1) hm (by rw [hat]; simp [enPr, hok.1]), r1]
        · by_cases hik : i = k
          · subst hik; rw [he] at he2; cases he2; omega
          · exact r4 i e' (by omega) he2 hf
      · have hpr : (eAt es (nI k)).elim (-1) enPr = nI e.2.2.1 := by rw [hat]; simp [enPr, hok1]
        have hy : inB (nI e.2.2.1) 8 = true := inB_nI hok2 (by decide)
        have hcl : (nI e.2.2.1).toNatClampNeg = e.2.2.1 := nI_clamp (by omega)
        have h8 : nI e.2.2.1 < 8 := nI_lit (k := 8) hok2 (by decide)
        have hth := hQ.2.2.1 e.2.2.1 hok2
        by_cases hin : e.2.2.1 ∈ Q
        · obtain ⟨t', qu', Q', z', r1, r2, r3, r4⟩ := ih (k + 1) t qu Q (some (.int (nI e.2.2.1))) (by omega) hQ
          refine ⟨t', qu', Q', z', ?_, r2, r3, fun i e' hi he2 hf => ?_⟩
          · rw [← r1]
            rw [s81_74]
            simp only [s81_76, s81_76n, s81_79, s81_81, s81_82, s81_85, s81_85n, s81_87, s81_90, s81_92, Option.bind_some, Option.bind_none, Option.toList_some, Option.toList_none, List.nil_append, List.cons_append, ↓reduceIte, reduceCtorEq, cl1_i, cl1_r, cl1_n, cl1_0, cl1_J, okS_0, okS_1, okS_2, okS_3, okS_4, bB_0, bB_and, z_0, z_1, z_10, bB_t, bB_f, Bool.true_eq_false, Bool.false_eq_true, gT0, gT1, gT2, gT3, gT4, gT5, gT6, gF0, gF1, gF2, gF3, gF4, gS0, gS1, gC0, gC1, iT, iF, iS, iC, sT6_0, sT6_1, sF2, sF3, sF4_0, sF4_1, sS1, sC1, h3, gO3x hx8, iLx hx8, c32x hx8 hL, hpr]
            simp only [s81_95, s81_97, s81_99, s81_102, s81_105, s81_107, s81_107n, s81_108, s81_109, s81_112, s81_112n, s81_113, s81_115, s81_116, Option.bind_some, Option.bind_none, Option.toList_some, Option.toList_none, List.nil_append, List.cons_append, ↓reduceIte, reduceCtorEq, cl1_i, cl1_r, cl1_n, cl1_0, cl1_J, okS_0, okS_1, okS_2, okS_3, okS_4, bB_0, bB_and, z_0, z_1, z_10, bB_t, bB_f, Bool.true_eq_false, Bool.false_eq_true, gT0, gT1, gT2, gT3, gT4, gT5, gT6, gF0, gF1, gF2, gF3, gF4, gS0, gS1, gC0, gC1, iT, iF, iS, iC, sT6_0, sT6_1, sF2, sF3, sF4_0, sF4_1, sS1, sC1, c75, hy, laX, h8, aX hy, hcl, hth, decide_eq_true hin]
            simp only [s81_141, s81_144, Option.bind_some, Option.bind_none, Option.toList_some, Option.toList_none, List.nil_append, List.cons_append, ↓reduceIte, reduceCtorEq, cl1_i, cl1_r, cl1_n, cl1_0, cl1_J, okS_0, okS_1, okS_2, okS_3, okS_4, bB_0, bB_and, z_0, z_1, z_10, bB_t, bB_f, Bool.true_eq_false, Bool.false_eq_true, gT0, gT1, gT2, gT3, gT4, gT5, gT6, gF0, gF1, gF2, gF3, gF4, gS0, gS1, gC0, gC1, iT, iF, iS, iC, sT6_0, sT6_1, sF2, sF3, sF4_0, sF4_1, sS1, sC1, nI_1]
          · by_cases hik : i = k
            · subst hik
              rw [he] at he2
              cases he2
              obtain ⟨R, rfl, -⟩ := r3
              exact List.mem_append_left _ hin
            · exact r4 i e' (by omega) he2 hf
        · have hnd : (Q ++ [e.2.2.1]).Nodup := by
            rw [List.nodup_append]
            refine ⟨hQ.1, by simp, fun y hy1 z9 hz => ?_⟩
            simp at hz
            subst hz
            exact fun e9 => hin (e9 ▸ hy1)
          have hl8 := pigeon 8 (Q ++ [e.2.2.1]) hnd (fun y hy1 => by
            rcases List.mem_append.mp hy1 with h9 | h9
            · exact hQ.2.1 y h9
            · simp at h9; omega)
          rw [List.length_append, List.length_singleton] at hl8
          have hql : nI Q.length < 8 := nI_lit (k := 8) (by omega) (by decide)
          have hqi : inB (nI Q.length) 8 = true := inB_nI (by omega) (by decide)
          have hqc : (nI Q.length).toNatClampNeg = Q.length := nI_clamp (by omega)
          obtain ⟨t', qu', Q', z', r1, r2, ⟨R, r3, r3b⟩, r4⟩ := ih (k + 1) (upd t e.2.2.1 1) (upd qu Q.length (nI e.2.2.1)) (Q ++ [e.2.2.1]) (some (.int (nI e.2.2.1))) (by omega) ⟨hnd, fun y hy1 => by
            rcases List.mem_append.mp hy1 with h9 | h9
            · exact hQ.2.1 y h9
            · simp at h9; omega, fun y hy1 => by
            by_cases hye : y = e.2.2.1
            · subst hye; simp [upd, bB]
            · simp only [upd, if_neg hye]
              rw [hQ.2.2.1 y hy1]
              simp [hye], fun i y hi => by
            by_cases hil : i = Q.length
            · subst hil
              simp at hi
              subst hi
              simp [upd]
            · have : i < Q.length := by
                have := (List.getElem?_eq_some_iff.mp hi).1
                simp at this
                omega
              rw [List.getElem?_append_left this] at hi
              simp only [upd, if_neg hil]
              exact hQ.2.2.2 i y hi⟩
          refine ⟨t', qu', Q', z', ?_, r2, ⟨e.2.2.1 :: R, by rw [r3]; simp, fun y hy1 => ?_⟩, fun i e' hi he2 hf => ?_⟩
          · rw [← r1, List.length_append, List.length_singleton]
            rw [s81_74]
            simp only [s81_76, s81_76n, s81_79, s81_81, s81_82, s81_85, s81_85n, s81_87, s81_90, s81_92, Option.bind_some, Option.bind_none, Option.toList_some, Option.toList_none, List.nil_append, List.cons_append, ↓reduceIte, reduceCtorEq, cl1_i, cl1_r, cl1_n, cl1_0, cl1_J, okS_0, okS_1, okS_2, okS_3, okS_4, bB_0, bB_and, z_0, z_1, z_10, bB_t, bB_f, Bool.true_eq_false, Bool.false_eq_true, gT0, gT1, gT2, gT3, gT4, gT5, gT6, gF0, gF1, gF2, gF3, gF4, gS0, gS1, gC0, gC1, iT, iF, iS, iC, sT6_0, sT6_1, sF2, sF3, sF4_0, sF4_1, sS1, sC1, h3, gO3x hx8, iLx hx8, c32x hx8 hL, hpr]
            simp only [s81_95, s81_97, s81_99, s81_102, s81_105, s81_107, s81_107n, s81_108, s81_109, s81_112, s81_112n, s81_113, s81_115, s81_116, s81_119, s81_120, s81_122, s81_125, s81_125n, s81_126, s81_128, s81_129, s81_130, s81_130n, s81_131, s81_134, s81_135, s81_137, s81_138, Option.bind_some, Option.bind_none, Option.toList_some, Option.toList_none, List.nil_append, List.cons_append, ↓reduceIte, reduceCtorEq, cl1_i, cl1_r, cl1_n, cl1_0, cl1_J, okS_0, okS_1, okS_2, okS_3, okS_4, bB_0, bB_and, z_0, z_1, z_10, bB_t, bB_f, Bool.true_eq_false, Bool.false_eq_true, gT0, gT1, gT2, gT3, gT4, gT5, gT6, gF0, gF1, gF2, gF3, gF4, gS0, gS1, gC0, gC1, iT, iF, iS, iC, sT6_0, sT6_1, sF2, sF3, sF4_0, sF4_1, sS1, sC1, c75, hy, laX, h8, aX hy, hcl, hth, decide_eq_false hin, hql, tX1 hy, gT4x, tQx hqi, hqc, nI_1]
            simp only [s81_141, s81_144, Option.bind_some, Option.bind_none, Option.toList_some, Option.toList_none, List.nil_append, List.cons_append, ↓reduceIte, reduceCtorEq, cl1_i, cl1_r, cl1_n, cl1_0, cl1_J, okS_0, okS_1, okS_2, okS_3, okS_4, bB_0, bB_and, z_0, z_1, z_10, bB_t, bB_f, Bool.true_eq_false, Bool.false_eq_true, gT0, gT1, gT2, gT3, gT4, gT5, gT6, gF0, gF1, gF2, gF3, gF4, gS0, gS1, gC0, gC1, iT, iF, iS, iC, sT6_0, sT6_1, sF2, sF3, sF4_0, sF4_1, sS1, sC1, nI_1]
          · rcases List.mem_cons.mp hy1 with rfl | h9
            · exact kids_mem.mpr ⟨e, List.mem_of_getElem? he, hok1, rfl⟩
            · exact r3b y h9
          · by_cases hik : i = k
            · subst hik
              rw [he] at he2
              cases he2
              rw [r3]
              simp
            · exact r4 i e' (by omega) he2 hf
theorem c81_out {a : Nat} (Ls : Nat → Lst) (hLs : ∀ x, Rch Ls a x → x < 8 ∧ LiR (li x) (Ls x).1 (Ls x).2) : ∀ (d nxt : Nat) (t qu : Nat → Int32) (Q : List Nat) (z1 z2 z3 : Option Value), nxt + d = 8 → nxt ≤ Q.length → QuI t qu Q → (∀ x ∈ Q, Rch Ls a x) → (∀ (i x : Nat), i < nxt → Q[i]? = some x → ∀ y ∈ kids (Ls x).1, y ∈ Q) → ∃ t' qu' Q', Run 81 45 [some (.ref 1), some (.int (nI a)), some (.ref (ax v)), some (.int (nI Q.length)), some (.int (nI nxt)), z1, z2, z3] [] (hx v sc F s c t t2 qu mo li mm) = some (none, hx v sc F s c t' t2 qu' mo li mm) ∧ QuI t' qu' Q' ∧ (∀ x ∈ Q, x ∈ Q') ∧ (∀ x ∈ Q', Rch Ls a x) ∧ ∀ x ∈ Q', ∀ y ∈ kids (Ls x).1, y ∈ Q' := by
  intro d
  induction d with
  | zero =>
    intro nxt t qu Q z1 z2 z3 h1 h2 hQ hR hC
    have hl := hQ.len
    obtain rfl : nxt = 8 := by omega
    refine ⟨t, qu, Q, ?_, hQ, fun x h => h, hR, fun x hx y hy => ?_⟩
    · have h3 : ¬ nI 8 < nI Q.length := nI_nlt (by omega) (by decide)
      simp only [s81_45, s81_47, s81_48, s81_153, Option.bind_some, Option.bind_none, Option.toList_some, Option.toList_none, List.nil_append, List.cons_append, ↓reduceIte, reduceCtorEq, cl1_i, cl1_r, cl1_n, cl1_0, cl1_J, okS_0, okS_1, okS_2, okS_3, okS_4, bB_0, bB_and, z_0, z_1, z_10, bB_t, bB_f, Bool.true_eq_false, Bool.false_eq_true, gT0, gT1, gT2, gT3, gT4, gT5, gT6, gF0, gF1, gF2, gF3, gF4, gS0, gS1, gC0, gC1, iT, iF, iS, iC, sT6_0, sT6_1, sF2, sF3, sF4_0, sF4_1, sS1, sC1, h3]
    · obtain ⟨i, hi⟩ := List.getElem?_of_mem hx
      exact hC i x (by have := (List.getElem?_eq_some_iff.mp hi).1; omega) hi y hy
  | succ d ih =>
    intro nxt t qu Q z1 z2 z3 h1 h2 hQ hR hC
    by_cases hn : nxt < Q.length
    · have h3 : nI nxt < nI Q.length := nI_lt hn (by have := hQ.len; omega)
      have h4 : nI nxt < 8 := nI_lit (k := 8) (by omega) (by decide)
      have hi : inB (nI nxt) 8 = true := inB_nI (by omega) (by decide)
      have hcl : (nI nxt).toNatClampNeg = nxt := nI_clamp (by omega)
      have hx : Q[nxt]? = some Q[nxt] := List.getElem?_eq_getElem hn
      generalize Q[nxt] = x at hx
      have hqx := hQ.2.2.2 nxt x hx
      obtain ⟨hx8, hLx⟩ := hLs x (hR x (List.mem_of_getElem? hx))
      obtain ⟨t1, qu1, Q1, z9, r1, r2, ⟨W9, r3, r3b⟩, r4⟩ := c81_in (v := v) (sc := sc) (F := F) (s := s) (c := c) (t2 := t2) (mo := mo) (mm := mm) (a := a) (nxt := nxt) hx8 hLx (by omega) 4 0 t qu Q z3 (by omega) hQ
      obtain ⟨t2', qu2, Q2, r5, r6, r7, r8, r9⟩ := ih (nxt + 1) t1 qu1 Q1 (some (.ref (13 + 6 * x))) (some (.int 4)) z9 (by omega) (by rw [r3, List.length_append]; omega) r2 (fun y hy => by
        rw [r3] at hy
        rcases List.mem_append.mp hy with h9 | h9
        · exact hR y h9
        · exact (hR x (List.mem_of_getElem? hx)).step (r3b y h9)) (fun i y hi9 hy z hz => by
        by_cases hin : i < nxt
        · rw [r3, List.getElem?_append_left (by omega)] at hy
          have := hC i y hin hy z hz
          rw [r3]
          exact List.mem_append_left _ this
        · obtain rfl : i = nxt := by omega
          rw [r3, List.getElem?_append_left hn, hx] at hy
          cases hy
          obtain ⟨e, he, hf, rfl⟩ := kids_mem.mp hz
          obtain ⟨k, hk⟩ := List.getElem?_of_mem he
          exact r4 k e (Nat.zero_le _) hk hf)
      refine ⟨t2', qu2, Q2, ?_, r6, fun y hy => r7 y (by rw [r3]; exact List.mem_append_left _ hy), r8, r9⟩
      rw [← r5, ← r1]
      simp only [s81_45, s81_47, s81_48, s81_51, s81_53, s81_55, s81_58, s81_58n, s81_59, s81_59n, s81_60, s81_63, s81_65, s81_66, Option.bind_some, Option.bind_none, Option.toList_some, Option.toList_none, List.nil_append, List.cons_append, ↓reduceIte, reduceCtorEq, cl1_i, cl1_r, cl1_n, cl1_0, cl1_J, okS_0, okS_1, okS_2, okS_3, okS_4, bB_0, bB_and, z_0, z_1, z_10, bB_t, bB_f, Bool.true_eq_false, Bool.false_eq_true, gT0, gT1, gT2, gT3, gT4, gT5, gT6, gF0, gF1, gF2, gF3, gF4, gS0, gS1, gC0, gC1, iT, iF, iS, iC, sT6_0, sT6_1, sF2, sF3, sF4_0, sF4_1, sS1, sC1, h3, h4, gT4x, aQx hi, hcl, hqx, iTx, c76x hx8]
      simp only [s81_69, s81_69n, s81_71, s81_72, Option.bind_some, Option.bind_none, Option.toList_some, Option.toList_none, List.nil_append, List.cons_append, ↓reduceIte, reduceCtorEq, cl1_i, cl1_r, cl1_n, cl1_0, cl1_J, okS_0, okS_1, okS_2, okS_3, okS_4, bB_0, bB_and, z_0, z_1, z_10, bB_t, bB_f, Bool.true_eq_false, Bool.false_eq_true, gT0, gT1, gT2, gT3, gT4, gT5, gT6, gF0, gF1, gF2, gF3, gF4, gS0, gS1, gC0, gC1, iT, iF, iS, iC, sT6_0, sT6_1, sF2, sF3, sF4_0, sF4_1, sS1, sC1]
      rfl
    · refine ⟨t, qu, Q, ?_, hQ, fun x h => h, hR, fun x hx y hy => ?_⟩
      · have h3 : ¬ nI nxt < nI Q.length := nI_nlt (by omega) (by omega)
        simp only [s81_45, s81_47, s81_48, s81_153, Option.bind_some, Option.bind_none, Option.toList_some, Option.toList_none, List.nil_append, List.cons_append, ↓reduceIte, reduceCtorEq, cl1_i, cl1_r, cl1_n, cl1_0, cl1_J, okS_0, okS_1, okS_2, okS_3, okS_4, bB_0, bB_and, z_0, z_1, z_10, bB_t, bB_f, Bool.true_eq_false, Bool.false_eq_true, gT0, gT1, gT2, gT3, gT4, gT5, gT6, gF0, gF1, gF2, gF3, gF4, gS0, gS1, gC0, gC1, iT, iF, iS, iC, sT6_0, sT6_1, sF2, sF3, sF4_0, sF4_1, sS1, sC1, h3]
      · obtain ⟨i, hi⟩ := List.getElem?_of_mem hx
        exact hC i x (by have := (List.getElem?_eq_some_iff.mp hi).1; omega) hi y hy
/-- reach: the set behind it is what is reached from a -/
theorem c81 {a : Nat} (ha : a < 8) (Ls : Nat → Lst) (hLs : ∀ x, Rch Ls a x → x < 8 ∧ LiR (li x) (Ls x).1 (Ls x).2) : ∃ (t' qu' : Nat → Int32) (Q : List Nat), RunM 81 [.ref 1, .int (nI a), .ref (ax v)] (hx v sc F s c t t2 qu mo li mm) = some (none, hx v sc F s c t' t2 qu' mo li mm) ∧ (∀ k, k < 8 → t' k = bB (decide (k ∈ Q))) ∧ ∀ x, x ∈ Q ↔ Rch Ls a x := by
  obtain ⟨t1, r1, r2⟩ := c81_init (v := v) (sc := sc) (F := F) (s := s) (c := c) (t2 := t2) (qu := qu) (mo := mo) (li := li) (mm := mm) ha 8 0 t (by omega) (fun k hk => absurd hk (by omega))
  have hQ0 : QuI t1 (upd qu 0 (nI a)) [a] := ⟨by simp, by simpa using ha, fun k hk => by rw [r2 k hk]; simp, fun k x hk => by
    cases k with
    | zero => simp at hk; subst hk; simp [upd]
    | succ k => simp at hk⟩
  obtain ⟨t', qu', Q, r3, r4, r5, r6, r7⟩ := c81_out (v := v) (sc := sc) (F := F) (s := s) (c := c) (t2 := t2) (mo := mo) (mm := mm) (li := li) Ls hLs 8 0 t1 (upd qu 0 (nI a)) [a] none none none (by omega) (by simp) hQ0 (fun x hx => by simp at hx; subst hx; exact Rch.rf) (fun i x hi => absurd hi (by omega))
  refine ⟨t', qu', Q, ?_, r4.2.2.1, fun x => ⟨r6 x, fun h => Rch.in (P := fun x => x ∈ Q) (r5 a (by simp)) r7 h⟩⟩
  have h0 : inB 0 8 = true := by decide
  have e0 : (0 : Int32).toNatClampNeg = 0 := by decide
  rw [nI_0] at r1
  simp only [e81, s81_0, s81_1, Option.bind_some, Option.bind_none, Option.toList_some, Option.toList_none, List.nil_append, List.cons_append, ↓reduceIte, reduceCtorEq, cl1_i, cl1_r, cl1_n, cl1_0, cl1_J, okS_0, okS_1, okS_2, okS_3, okS_4, bB_0, bB_and, z_0, z_1, z_10, bB_t, bB_f, Bool.true_eq_false, Bool.false_eq_true, gT0, gT1, gT2, gT3, gT4, gT5, gT6, gF0, gF1, gF2, gF3, gF4, gS0, gS1, gC0, gC1, iT, iF, iS, iC, sT6_0, sT6_1, sF2, sF3, sF4_0, sF4_1, sS1, sC1]
  rw [r1]
  simp only [s81_33, s81_33n, s81_34, s81_37, s81_38, s81_39, s81_40, s81_41, s81_42, s81_43, Option.bind_some, Option.bind_none, Option.toList_some, Option.toList_none, List.nil_append, List.cons_append, ↓reduceIte, reduceCtorEq, cl1_i, cl1_r, cl1_n, cl1_0, cl1_J, okS_0, okS_1, okS_2, okS_3, okS_4, bB_0, bB_and, z_0, z_1, z_10, bB_t, bB_f, Bool.true_eq_false, Bool.false_eq_true, gT0, gT1, gT2, gT3, gT4, gT5, gT6, gF0, gF1, gF2, gF3, gF4, gS0, gS1, gC0, gC1, iT, iF, iS, iC, sT6_0, sT6_1, sF2, sF3, sF4_0, sF4_1, sS1, sC1, gT4x, tQx h0, e0]
  exact r3
end REACH
