/-! ===== Folder: writing anew, beginning, committing, loading ===== -/
def oth (b : Nat) : Nat := if b % 2 = 0 then b + 1 else b - 1
theorem xor1 : ∀ b, b < 16 → nI b ^^^ 1 = nI (oth b) := by decide +kernel
theorem oth_lt {b : Nat} (h : b < 16) : oth b < 16 := by unfold oth; split <;> omega
/-- a log written anew: into block b with this revision -/
def anW (f : FB) (b : Nat) (rev : Int32) (bs : List Int32) : Bool × FB := if (ers f b).1 = true then wr (ers f b).2 (b * 64) (rev :: nI bs.length :: (bs ++ [0])) else (false, (ers f b).2)
def anF (f : FB) (q : Nat) (ob : Option Nat) (bs : List Int32) : Bool × FB := match ob with
  | none => anW f (2 * q) 0 bs
  | some b => anW f (oth b) (f.1 (b * 64) + 1) bs
/-- a commit to block b -/
def cmF (f : FB) (b : Nat) (bs : List Int32) (st : Lst) : Bool × FB := if lE f b + bs.length + 2 ≤ 64 ∧ f.1 (b * 64 + lE f b) = 255 then wr f (b * 64 + lE f b) (nI bs.length :: (bs ++ [0])) else anF f 0 (some b) (encL st)
def rb (f : FB) (a n : Nat) : List Int32 := (List.range n).map fun i => f.1 (a + i)
theorem rb_len (f : FB) (a n : Nat) : (rb f a n).length = n := by simp [rb]
theorem encL_len {st : Lst} (h4 : st.1.length ≤ 4) (hok : ∀ e ∈ st.1, OkE e) : (encL st).length ≤ 39 := by
  have : ∀ t : List En, (∀ e ∈ t, OkE e) → (t.flatMap (fun e => encE e (nI e.1))).length ≤ 9 * t.length := by
    intro t
    induction t with
    | nil => intro _; simp
    | cons e t ih =>
      intro h
      have h1 := encE_len (x := nI e.1) (h e List.mem_cons_self)
      have h2 := ih (fun x hx => h x (List.mem_cons_of_mem _ hx))
      simp only [List.flatMap_cons, List.length_append, List.length_cons]
      omega
  have h1 := this st.1 hok
  unfold encL
  rw [List.length_append]
  have h2 : (encM st.2).length ≤ 3 := by unfold encM; split <;> simp
  omega
theorem LiR.ok {L : LiS} {es : List En} {mk : Option (Nat × Nat)} (h : LiR L es mk) : ∀ e ∈ es, OkE e := by
  intro e he
  obtain ⟨k, hk⟩ := List.getElem?_of_mem he
  exact (h.2.2.1 k e hk).2
theorem act_lt {f : FB} {q b : Nat} (hq : q < 8) (h : act f q = some b) : b < 16 ∧ (b = 2 * q ∨ b = 2 * q + 1) := by
  unfold act at h
  split at h
  · split at h
    · split at h <;> (cases h; omega)
    · cases h; omega
  · split at h
    · cases h; omega
    · cases h
theorem act_m1 {f : FB} {q : Nat} (hq : q < 8) : (oI (act f q) = -1) = (act f q = none) := oI_m1 _ fun n h => by have := act_lt hq h; omega
theorem lEn_le {f : FB} {b : Nat} : ∀ (n e : Nat), 1 ≤ e → e ≤ 64 → 1 ≤ lEn f b n e ∧ lEn f b n e ≤ 64 := by
  intro n
  induction n with
  | zero => intro e h1 h2; exact ⟨h1, h2⟩
  | succ n ih =>
    intro e h1 h2
    unfold lEn
    cases hn : nx f b e with
    | none => exact ⟨h1, h2⟩
    | some e' =>
      have := nx_lt hn
      exact ih e' (by omega) (by omega)
section CMT
variable {sc : AC} {f : FB} {s c : OpS} {th be qu : Nat → Int32} {mo : Int32} {li : Nat → LiS} {mm : AH} {q : Nat} {es : List En} {mk : Option (Nat × Nat)} {j : Nat → Int32} {bs : List Int32}
theorem c43s {F : FlS} : RunM 43 [.ref 5] (hp sc F s c th be qu mo li mm) = some (none, hp sc F (opf s.1 []) c th be qu mo li mm) := c43 (w := false)
theorem c43c {F : FlS} : RunM 43 [.ref 11] (hp sc F s c th be qu mo li mm) = some (none, hp sc F s (opf c.1 []) th be qu mo li mm) := c43 (w := true)
theorem c46s {F : FlS} {v : Int32} (hb : bs.length < 64) : RunM 46 [.ref 5, .int v] (hp sc F (opf j bs) c th be qu mo li mm) = some (none, hp sc F (opf j (bs ++ [v])) c th be qu mo li mm) := c46 (w := false) hb
theorem c36s {F : FlS} (hq : q < 8) (hL : LiR (li q) es mk) (hm : ∀ p, mk = some p → p.1 < 8) (hb : bs.length + 3 ≤ 64) : RunM 36 [.ref (14 + 6 * q), .ref 5] (hp sc F (opf j bs) c th be qu mo li mm) = some (none, hp sc F (opf j (bs ++ encM mk)) c th be qu mo li mm) := c36 (w := false) hq hL hm hb
theorem c35s {F : FlS} (hq : q < 8) (hL : LiR (li q) es mk) {k : Nat} {e : En} (he : es[k]? = some e) {x : Int32} (hb : bs.length + 9 ≤ 64) : RunM 35 [.ref (14 + 6 * q), .ref 5, .int (nI k), .int x] (hp sc F (opf j bs) c th be qu mo li mm) = some (none, hp sc F (opf j (bs ++ encE e x)) c th be qu mo li mm) := c35 (w := false) hq hL he hb
theorem c35sn {F : FlS} (hq : q < 8) (hL : LiR (li q) es mk) {k : Int32} (he : inB k es.length = false) {x : Int32} : RunM 35 [.ref (14 + 6 * q), .ref 5, .int k, .int x] (hp sc F s c th be qu mo li mm) = some (none, hp sc F s c th be qu mo li mm) := c35n (w := false) hq hL he
/-- the entries are added one by one -/
theorem c21_loop {F : FlS} (hq : q < 8) (hL : LiR (li q) es mk) {x y rev : Int32} : ∀ (n k : Nat) (bs : List Int32), k + n = 4 → bs.length + 9 * n ≤ 64 → Run 21 53 [some (.ref (13 + 6 * q)), some (.int x), some (.int y), some (.int rev), some (.int (nI k))] [] (hp sc F (opf j bs) c th be qu mo li mm) = Run 21 87 [some (.ref (13 + 6 * q)), some (.int x), some (.int y), some (.int rev), some (.int (nI 4))] [] (hp sc F (opf j (bs ++ (es.drop k).flatMap (fun e => encE e (nI e.1)))) c th be qu mo li mm) := by
  have h4 := hL.1
  intro n
  induction n with
  | zero =>
    intro k bs hk hb
    obtain rfl : k = 4 := by omega
    have h3 : ¬ nI 4 < 4 := by decide
    have h5 : es.drop 4 = [] := List.drop_eq_nil_of_le h4
    simp only [s21_53, s21_55, s21_56, Option.bind_some, Option.bind_none, Option.toList_some, Option.toList_none, List.nil_append, List.cons_append, ↓reduceIte, reduceCtorEq, cl1_i, cl1_r, cl1_n, cl1_0, cl1_J, okS_0, okS_1, okS_2, okS_3, okS_4, bB_0, bB_and, z_0, z_1, z_10, bB_t, bB_f, Bool.true_eq_false, Bool.false_eq_true, gT0, gT1, gT2, gT3, gT4, gT5, gT6, gF0, gF1, gF2, gF3, gF4, gS0, gS1, gC0, gC1, iT, iF, iS, iC, sT6_0, sT6_1, sF2, sF3, sF4_0, sF4_1, sS1, sC1, h3, h5, List.flatMap_nil, List.append_nil]
  | succ n ih =>
    intro k bs hk hb
    have h8 : nI k < 4 := nI_lit (k := 4) (by omega) (by decide)
    by_cases hkl : k < es.length
    · have he : es[k]? = some es[k] := List.getElem?_eq_getElem hkl
      have hat : eAt es (nI k) = some es[k] := by rw [eAt_nI h4 hkl, he]
      rw [s21_53]
      simp only [s21_55, s21_56, s21_59, s21_59n, s21_60, s21_63, s21_63n, s21_64, s21_67, s21_69, s21_69n, s21_70, s21_73, s21_75, Option.bind_some, Option.bind_none, Option.toList_some, Option.toList_none, List.nil_append, List.cons_append, ↓reduceIte, reduceCtorEq, cl1_i, cl1_r, cl1_n, cl1_0, cl1_J, okS_0, okS_1, okS_2, okS_3, okS_4, bB_0, bB_and, z_0, z_1, z_10, bB_t, bB_f, Bool.true_eq_false, Bool.false_eq_true, gT0, gT1, gT2, gT3, gT4, gT5, gT6, gF0, gF1, gF2, gF3, gF4, gS0, gS1, gC0, gC1, iT, iF, iS, iC, sT6_0, sT6_1, sF2, sF3, sF4_0, sF4_1, sS1, sC1, gO0 hq, gO1 hq, gO2 hq, gO3 hq, gL0 hq, gL1 hq, gL2 hq, gL3 hq, gL4 hq, gL5 hq, gL6 hq, iO hq, iL hq, sL4 hq, sL5 hq, sL6 hq, h8, c31 hq hL, hat, Option.elim_some]
      simp only [s21_78, Option.bind_some, Option.bind_none, Option.toList_some, Option.toList_none, List.nil_append, List.cons_append, ↓reduceIte, reduceCtorEq, cl1_i, cl1_r, cl1_n, cl1_0, cl1_J, okS_0, okS_1, okS_2, okS_3, okS_4, bB_0, bB_and, z_0, z_1, z_10, bB_t, bB_f, Bool.true_eq_false, Bool.false_eq_true, gT0, gT1, gT2, gT3, gT4, gT5, gT6, gF0, gF1, gF2, gF3, gF4, gS0, gS1, gC0, gC1, iT, iF, iS, iC, sT6_0, sT6_1, sF2, sF3, sF4_0, sF4_1, sS1, sC1, iL hq, c35s hq hL he (show bs.length + 9 ≤ 64 by omega)]
      simp only [s21_81, s21_84, Option.bind_some, Option.bind_none, Option.toList_some, Option.toList_none, List.nil_append, List.cons_append, ↓reduceIte, reduceCtorEq, cl1_i, cl1_r, cl1_n, cl1_0, cl1_J, okS_0, okS_1, okS_2, okS_3, okS_4, bB_0, bB_and, z_0, z_1, z_10, bB_t, bB_f, Bool.true_eq_false, Bool.false_eq_true, gT0, gT1, gT2, gT3, gT4, gT5, gT6, gF0, gF1, gF2, gF3, gF4, gS0, gS1, gC0, gC1, iT, iF, iS, iC, sT6_0, sT6_1, sF2, sF3, sF4_0, sF4_1, sS1, sC1, nI_1]
      have := encE_len (x := nI es[k].1) (hL.2.2.1 k _ he).2
      rw [ih (k + 1) _ (by omega) (by rw [List.length_append]; omega)]
      rw [List.drop_eq_getElem_cons hkl, List.flatMap_cons, List.append_assoc]
    · have hin : inB (nI k) es.length = false := inB_no (by omega) (by omega)
      rw [s21_53]
      simp only [s21_55, s21_56, s21_59, s21_59n, s21_60, s21_63, s21_63n, s21_64, s21_67, s21_69, s21_69n, s21_70, s21_73, s21_75, Option.bind_some, Option.bind_none, Option.toList_some, Option.toList_none, List.nil_append, List.cons_append, ↓reduceIte, reduceCtorEq, cl1_i, cl1_r, cl1_n, cl1_0, cl1_J, okS_0, okS_1, okS_2, okS_3, okS_4, bB_0, bB_and, z_0, z_1, z_10, bB_t, bB_f, Bool.true_eq_false, Bool.false_eq_true, gT0, gT1, gT2, gT3, gT4, gT5, gT6, gF0, gF1, gF2, gF3, gF4, gS0, gS1, gC0, gC1, iT, iF, iS, iC, sT6_0, sT6_1, sF2, sF3, sF4_0, sF4_1, sS1, sC1, gO0 hq, gO1 hq, gO2 hq, gO3 hq, gL0 hq, gL1 hq, gL2 hq, gL3 hq, gL4 hq, gL5 hq, gL6 hq, iO hq, iL hq, sL4 hq, sL5 hq, sL6 hq, h8, c31 hq hL]
      simp only [s21_78, Option.bind_some, Option.bind_none, Option.toList_some, Option.toList_none, List.nil_append, List.cons_append, ↓reduceIte, reduceCtorEq, cl1_i, cl1_r, cl1_n, cl1_0, cl1_J, okS_0, okS_1, okS_2, okS_3, okS_4, bB_0, bB_and, z_0, z_1, z_10, bB_t, bB_f, Bool.true_eq_false, Bool.false_eq_true, gT0, gT1, gT2, gT3, gT4, gT5, gT6, gF0, gF1, gF2, gF3, gF4, gS0, gS1, gC0, gC1, iT, iF, iS, iC, sT6_0, sT6_1, sF2, sF3, sF4_0, sF4_1, sS1, sC1, iL hq, c35sn hq hL hin]
      simp only [s21_81, s21_84, Option.bind_some, Option.bind_none, Option.toList_some, Option.toList_none, List.nil_append, List.cons_append, ↓reduceIte, reduceCtorEq, cl1_i, cl1_r, cl1_n, cl1_0, cl1_J, okS_0, okS_1, okS_2, okS_3, okS_4, bB_0, bB_and, z_0, z_1, z_10, bB_t, bB_f, Bool.true_eq_false, Bool.false_eq_true, gT0, gT1, gT2, gT3, gT4, gT5, gT6, gF0, gF1, gF2, gF3, gF4, gS0, gS1, gC0, gC1, iT, iF, iS, iC, sT6_0, sT6_1, sF2, sF3, sF4_0, sF4_1, sS1, sC1, nI_1]
      rw [ih (k + 1) _ (by omega) (by omega)]
      rw [List.drop_eq_nil_of_le (by omega : es.length ≤ k), List.drop_eq_nil_of_le (by omega : es.length ≤ k + 1)]
theorem c22s (hq : q < 8) {b a : Nat} (hb : b < 16) (ha : a + bs.length + 2 ≤ 64) : RunM 22 [.ref (13 + 6 * q), .int (nI b), .int (nI a), .ref 5] (hp sc (fB f) (opf j bs) c th be qu mo li mm) = some (some (.int (bB (wr f (b * 64 + a) (nI bs.length :: (bs ++ [0]))).1)), hp sc (fB (wr f (b * 64 + a) (nI bs.length :: (bs ++ [0]))).2) (opf j bs) c th be qu mo li mm) := c22 (w := false) hq hb ha
theorem c22c (hq : q < 8) {b a : Nat} (hb : b < 16) (ha : a + bs.length + 2 ≤ 64) : RunM 22 [.ref (13 + 6 * q), .int (nI b), .int (nI a), .ref 11] (hp sc (fB f) s (opf j bs) th be qu mo li mm) = some (some (.int (bB (wr f (b * 64 + a) (nI bs.length :: (bs ++ [0]))).1)), hp sc (fB (wr f (b * 64 + a) (nI bs.length :: (bs ++ [0]))).2) s (opf j bs) th be qu mo li mm) := c22 (w := true) hq hb ha
theorem c37s {F : FlS} (hq : q < 8) {st : Lst} (hL : LiR (li q) st.1 st.2) {os : List Opn} (hF : FitS st os) (hb : (encS os).length ≤ 64) : ∃ l', RunM 37 [.ref (14 + 6 * q), .ref 5] (hp sc F (opf j (encS os)) c th be qu mo li mm) = some (none, hp sc F (opf j (encS os)) c th be qu mo (upL li q l') mm) ∧ LiR l' (apS st os).1 (apS st os).2 := c37 (w := false) hq hL hF hb
theorem c37c {F : FlS} (hq : q < 8) {st : Lst} (hL : LiR (li q) st.1 st.2) {os : List Opn} (hF : FitS st os) (hb : (encS os).length ≤ 64) : ∃ l', RunM 37 [.ref (14 + 6 * q), .ref 11] (hp sc F s (opf j (encS os)) th be qu mo li mm) = some (none, hp sc F s (opf j (encS os)) th be qu mo (upL li q l') mm) ∧ LiR l' (apS st os).1 (apS st os).2 := c37 (w := true) hq hL hF hb
theorem c44c {F : FlS} : RunM 44 [.ref 11] (hp sc F s (opf j bs) th be qu mo li mm) = some (some (.int (nI bs.length)), hp sc F s (opf j bs) th be qu mo li mm) := c44 (w := true)
/-- the last three calls of writing anew -/
theorem c21_end (hq : q < 8) {b : Nat} (hb : b < 16) {x rev z : Int32} (hbs : bs.length ≤ 39) : Run 21 98 [some (.ref (13 + 6 * q)), some (.int x), some (.int (nI b)), some (.int rev), some (.int z)] [] (hp sc (fB f) (opf j bs) c th be qu mo li mm) = some (some (.int (bB (anW f b rev bs).1)), hp sc (fB (anW f b rev bs).2) (opf j bs) c th be qu mo li mm) := by
  simp only [s21_98, s21_98n, s21_99, s21_102, s21_103, Option.bind_some, Option.bind_none, Option.toList_some, Option.toList_none, List.nil_append, List.cons_append, ↓reduceIte, reduceCtorEq, cl1_i, cl1_r, cl1_n, cl1_0, cl1_J, okS_0, okS_1, okS_2, okS_3, okS_4, bB_0, bB_and, z_0, z_1, z_10, bB_t, bB_f, Bool.true_eq_false, Bool.false_eq_true, gT0, gT1, gT2, gT3, gT4, gT5, gT6, gF0, gF1, gF2, gF3, gF4, gS0, gS1, gC0, gC1, iT, iF, iS, iC, sT6_0, sT6_1, sF2, sF3, sF4_0, sF4_1, sS1, sC1, gO0 hq, gO1 hq, gO2 hq, gO3 hq, gL0 hq, gL1 hq, gL2 hq, gL3 hq, gL4 hq, gL5 hq, gL6 hq, iO hq, iL hq, sL4 hq, sL5 hq, sL6 hq, c8 hb]
  unfold anW
  cases h1 : (ers f b).1 with
  | false => simp only [s21_106, s21_139, s21_140, Option.bind_some, Option.bind_none, Option.toList_some, Option.toList_none, List.nil_append, List.cons_append, ↓reduceIte, reduceCtorEq, cl1_i, cl1_r, cl1_n, cl1_0, cl1_J, okS_0, okS_1, okS_2, okS_3, okS_4, bB_0, bB_and, z_0, z_1, z_10, bB_t, bB_f, Bool.true_eq_false, Bool.false_eq_true, gT0, gT1, gT2, gT3, gT4, gT5, gT6, gF0, gF1, gF2, gF3, gF4, gS0, gS1, gC0, gC1, iT, iF, iS, iC, sT6_0, sT6_1, sF2, sF3, sF4_0, sF4_1, sS1, sC1]
  | true =>
    have e0 : RunM 7 [.ref 2, .int (nI b), .int 0, .int rev] (hp sc (fB (ers f b).2) (opf j bs) c th be qu mo li mm) = _ := c7 (o := 0) hb (by decide)
    simp only [s21_106, s21_109, s21_109n, s21_110, s21_113, s21_114, s21_115, s21_116, Option.bind_some, Option.bind_none, Option.toList_some, Option.toList_none, List.nil_append, List.cons_append, ↓reduceIte, reduceCtorEq, cl1_i, cl1_r, cl1_n, cl1_0, cl1_J, okS_0, okS_1, okS_2, okS_3, okS_4, bB_0, bB_and, z_0, z_1, z_10, bB_t, bB_f, Bool.true_eq_false, Bool.false_eq_true, gT0, gT1, gT2, gT3, gT4, gT5, gT6, gF0, gF1, gF2, gF3, gF4, gS0, gS1, gC0, gC1, iT, iF, iS, iC, sT6_0, sT6_1, sF2, sF3, sF4_0, sF4_1, sS1, sC1, gO0 hq, gO1 hq, gO2 hq, gO3 hq, gL0 hq, gL1 hq, gL2 hq, gL3 hq, gL4 hq, gL5 hq, gL6 hq, iO hq, iL hq, sL4 hq, sL5 hq, sL6 hq, e0, Nat.add_zero]
    rw [wr]
    cases h2 : (prg (ers f b).2 (b * 64) rev).1 with
    | false => simp only [s21_119, s21_139, s21_140, Option.bind_some, Option.bind_none, Option.toList_some, Option.toList_none, List.nil_append, List.cons_append, ↓reduceIte, reduceCtorEq, cl1_i, cl1_r, cl1_n, cl1_0, cl1_J, okS_0, okS_1, okS_2, okS_3, okS_4, bB_0, bB_and, z_0, z_1, z_10, bB_t, bB_f, Bool.true_eq_false, Bool.false_eq_true, gT0, gT1, gT2, gT3, gT4, gT5, gT6, gF0, gF1, gF2, gF3, gF4, gS0, gS1, gC0, gC1, iT, iF, iS, iC, sT6_0, sT6_1, sF2, sF3, sF4_0, sF4_1, sS1, sC1]
    | true =>
      have e1 : RunM 22 [.ref (13 + 6 * q), .int (nI b), .int 1, .ref 5] (hp sc (fB (prg (ers f b).2 (b * 64) rev).2) (opf j bs) c th be qu mo li mm) = _ := c22s (a := 1) hq hb (by omega)
      simp only [s21_119, s21_122, s21_122n, s21_123, s21_124, s21_125, s21_125n, s21_126, s21_129, Option.bind_some, Option.bind_none, Option.toList_some, Option.toList_none, List.nil_append, List.cons_append, ↓reduceIte, reduceCtorEq, cl1_i, cl1_r, cl1_n, cl1_0, cl1_J, okS_0, okS_1, okS_2, okS_3, okS_4, bB_0, bB_and, z_0, z_1, z_10, bB_t, bB_f, Bool.true_eq_false, Bool.false_eq_true, gT0, gT1, gT2, gT3, gT4, gT5, gT6, gF0, gF1, gF2, gF3, gF4, gS0, gS1, gC0, gC1, iT, iF, iS, iC, sT6_0, sT6_1, sF2, sF3, sF4_0, sF4_1, sS1, sC1, gO0 hq, gO1 hq, gO2 hq, gO3 hq, gL0 hq, gL1 hq, gL2 hq, gL3 hq, gL4 hq, gL5 hq, gL6 hq, iO hq, iL hq, sL4 hq, sL5 hq, sL6 hq, e1]
      cases h3 : (wr (prg (ers f b).2 (b * 64) rev).2 (b * 64 + 1) (nI bs.length :: (bs ++ [0]))).1 with
      | false => simp only [s21_132, s21_139, s21_140, Option.bind_some, Option.bind_none, Option.toList_some, Option.toList_none, List.nil_append, List.cons_append, ↓reduceIte, reduceCtorEq, cl1_i, cl1_r, cl1_n, cl1_0, cl1_J, okS_0, okS_1, okS_2, okS_3, okS_4, bB_0, bB_and, z_0, z_1, z_10, bB_t, bB_f, Bool.true_eq_false, Bool.false_eq_true, gT0, gT1, gT2, gT3, gT4, gT5, gT6, gF0, gF1, gF2, gF3, gF4, gS0, gS1, gC0, gC1, iT, iF, iS, iC, sT6_0, sT6_1, sF2, sF3, sF4_0, sF4_1, sS1, sC1, h3]
      | true => simp only [s21_132, s21_135, s21_136, s21_139, s21_140, Option.bind_some, Option.bind_none, Option.toList_some, Option.toList_none, List.nil_append, List.cons_append, ↓reduceIte, reduceCtorEq, cl1_i, cl1_r, cl1_n, cl1_0, cl1_J, okS_0, okS_1, okS_2, okS_3, okS_4, bB_0, bB_and, z_0, z_1, z_10, bB_t, bB_f, Bool.true_eq_false, Bool.false_eq_true, gT0, gT1, gT2, gT3, gT4, gT5, gT6, gF0, gF1, gF2, gF3, gF4, gS0, gS1, gC0, gC1, iT, iF, iS, iC, sT6_0, sT6_1, sF2, sF3, sF4_0, sF4_1, sS1, sC1, h3]
theorem c21 (hB : BOk f) (hq : q < 8) (hL : LiR (li q) es mk) (hm : ∀ p, mk = some p → p.1 < 8) {ob : Option Nat} (hob : ∀ b, ob = some b → b < 16) : RunM 21 [.ref (13 + 6 * q), .int (oI ob)] (hp sc (fB f) s c th be qu mo li mm) = some (some (.int (bB (anF f q ob (encL (es, mk))).1)), (hp sc (fB (anF f q ob (encL (es, mk))).2) (opf s.1 (encL (es, mk))) c th be qu mo li mm)) := by
  have hlen := encL_len (st := (es, mk)) hL.1 hL.ok
  have l0 : ∀ {x y rev : Int32}, Run 21 53 [some (.ref (13 + 6 * q)), some (.int x), some (.int y), some (.int rev), some (.int 0)] [] (hp sc (fB f) (opf s.1 []) c th be qu mo li mm) = Run 21 98 [some (.ref (13 + 6 * q)), some (.int x), some (.int y), some (.int rev), some (.int (nI 4))] [] (hp sc (fB f) (opf s.1 (encL (es, mk))) c th be qu mo li mm) := by
    intro x y rev
    have h5 := c21_loop (sc := sc) (F := fB f) (c := c) (th := th) (be := be) (qu := qu) (mo := mo) (mm := mm) (j := s.1) hq hL (x := x) (y := y) (rev := rev) 4 0 [] rfl (by decide)
    rw [nI_0, List.drop_zero, List.nil_append] at h5
    have h6 : (es.flatMap (fun e => encE e (nI e.1))).length + 3 ≤ 64 := by
      have : (encL (es, mk)).length = (es.flatMap (fun e => encE e (nI e.1))).length + (encM mk).length := by rw [encL, List.length_append]
      omega
    rw [h5]
    simp only [s21_87, s21_87n, s21_88, s21_91, s21_91n, s21_92, s21_95, Option.bind_some, Option.bind_none, Option.toList_some, Option.toList_none, List.nil_append, List.cons_append, ↓reduceIte, reduceCtorEq, cl1_i, cl1_r, cl1_n, cl1_0, cl1_J, okS_0, okS_1, okS_2, okS_3, okS_4, bB_0, bB_and, z_0, z_1, z_10, bB_t, bB_f, Bool.true_eq_false, Bool.false_eq_true, gT0, gT1, gT2, gT3, gT4, gT5, gT6, gF0, gF1, gF2, gF3, gF4, gS0, gS1, gC0, gC1, iT, iF, iS, iC, sT6_0, sT6_1, sF2, sF3, sF4_0, sF4_1, sS1, sC1, gO0 hq, gO1 hq, gO2 hq, gO3 hq, gL0 hq, gL1 hq, gL2 hq, gL3 hq, gL4 hq, gL5 hq, gL6 hq, iO hq, iL hq, sL4 hq, sL5 hq, sL6 hq, c36s hq hL hm h6]
    rfl
  cases ob with
  | none =>
    have ho : oI none = -1 := rfl
    have e1 : (2 : Int32) * nI q = nI (2 * q) := pk_mul 2 q
    simp only [e21, s21_0, s21_1, s21_2, s21_5, s21_6, s21_6n, s21_7, s21_10, s21_11, s21_14, s21_15, s21_16, s21_17, s21_18, s21_19, s21_20, s21_23, s21_24, Option.bind_some, Option.bind_none, Option.toList_some, Option.toList_none, List.nil_append, List.cons_append, ↓reduceIte, reduceCtorEq, cl1_i, cl1_r, cl1_n, cl1_0, cl1_J, okS_0, okS_1, okS_2, okS_3, okS_4, bB_0, bB_and, z_0, z_1, z_10, bB_t, bB_f, Bool.true_eq_false, Bool.false_eq_true, gT0, gT1, gT2, gT3, gT4, gT5, gT6, gF0, gF1, gF2, gF3, gF4, gS0, gS1, gC0, gC1, iT, iF, iS, iC, sT6_0, sT6_1, sF2, sF3, sF4_0, sF4_1, sS1, sC1, gO0 hq, gO1 hq, gO2 hq, gO3 hq, gL0 hq, gL1 hq, gL2 hq, gL3 hq, gL4 hq, gL5 hq, gL6 hq, iO hq, iL hq, sL4 hq, sL5 hq, sL6 hq, ho, e1]
    simp only [s21_42, s21_43, s21_43n, s21_44, s21_47, s21_50, s21_51, Option.bind_some, Option.bind_none, Option.toList_some, Option.toList_none, List.nil_append, List.cons_append, ↓reduceIte, reduceCtorEq, cl1_i, cl1_r, cl1_n, cl1_0, cl1_J, okS_0, okS_1, okS_2, okS_3, okS_4, bB_0, bB_and, z_0, z_1, z_10, bB_t, bB_f, Bool.true_eq_false, Bool.false_eq_true, gT0, gT1, gT2, gT3, gT4, gT5, gT6, gF0, gF1, gF2, gF3, gF4, gS0, gS1, gC0, gC1, iT, iF, iS, iC, sT6_0, sT6_1, sF2, sF3, sF4_0, sF4_1, sS1, sC1, gO0 hq, gO1 hq, gO2 hq, gO3 hq, gL0 hq, gL1 hq, gL2 hq, gL3 hq, gL4 hq, gL5 hq, gL6 hq, iO hq, iL hq, sL4 hq, sL5 hq, sL6 hq, c43s]
    rw [l0]
    exact c21_end hq (by omega) hlen
  | some b =>
    have hb := hob b rfl
    have ho : oI (some b) = nI b := rfl
    have e0 : pk f (nI b) 0 = f.1 (b * 64) := by
      have := pk_nI (o := 0) hB hb (by decide)
      rw [Nat.add_zero] at this
      exact this.trans (hB (b * 64) (by omega)).1.symm
    simp only [e21, s21_0, s21_1, s21_2, s21_5, s21_6, s21_6n, s21_7, s21_10, s21_11, s21_14, s21_15, s21_16, s21_17, s21_18, s21_19, s21_20, s21_23, s21_24, s21_27, s21_27n, s21_28, s21_31, s21_32, s21_33, Option.bind_some, Option.bind_none, Option.toList_some, Option.toList_none, List.nil_append, List.cons_append, ↓reduceIte, reduceCtorEq, cl1_i, cl1_r, cl1_n, cl1_0, cl1_J, okS_0, okS_1, okS_2, okS_3, okS_4, bB_0, bB_and, z_0, z_1, z_10, bB_t, bB_f, Bool.true_eq_false, Bool.false_eq_true, gT0, gT1, gT2, gT3, gT4, gT5, gT6, gF0, gF1, gF2, gF3, gF4, gS0, gS1, gC0, gC1, iT, iF, iS, iC, sT6_0, sT6_1, sF2, sF3, sF4_0, sF4_1, sS1, sC1, gO0 hq, gO1 hq, gO2 hq, gO3 hq, gL0 hq, gL1 hq, gL2 hq, gL3 hq, gL4 hq, gL5 hq, gL6 hq, iO hq, iL hq, sL4 hq, sL5 hq, sL6 hq, ho, m1_nI' (show b < 2 ^ 31 by omega), xor1 b hb, c6, e0]
    simp only [s21_36, s21_37, s21_38, s21_41, s21_42, s21_43, s21_43n, s21_44, s21_47, s21_50, s21_51, Option.bind_some, Option.bind_none, Option.toList_some, Option.toList_none, List.nil_append, List.cons_append, ↓reduceIte, reduceCtorEq, cl1_i, cl1_r, cl1_n, cl1_0, cl1_J, okS_0, okS_1, okS_2, okS_3, okS_4, bB_0, bB_and, z_0, z_1, z_10, bB_t, bB_f, Bool.true_eq_false, Bool.false_eq_true, gT0, gT1, gT2, gT3, gT4, gT5, gT6, gF0, gF1, gF2, gF3, gF4, gS0, gS1, gC0, gC1, iT, iF, iS, iC, sT6_0, sT6_1, sF2, sF3, sF4_0, sF4_1, sS1, sC1, gO0 hq, gO1 hq, gO2 hq, gO3 hq, gL0 hq, gL1 hq, gL2 hq, gL3 hq, gL4 hq, gL5 hq, gL6 hq, iO hq, iL hq, sL4 hq, sL5 hq, sL6 hq, c43s]
    rw [l0]
    rw [c21_end hq (oth_lt hb) hlen]
    simp only [anF, anW, wr, prg_mask]
theorem c16 (hB : BOk f) (hq : q < 8) : ∃ l', RunM 16 [.ref (13 + 6 * q)] (hp sc (fB f) s c th be qu mo li mm) = some (some (.int (bB (anF f q (act f q) []).1)), (hp sc (fB (anF f q (act f q) []).2) (opf s.1 []) c th be qu mo (upL li q l') mm)) ∧ LiR l' [] none := by
  obtain ⟨l', r1, r2⟩ := c24 (sc := sc) (F := fB f) (s := s) (c := c) (th := th) (be := be) (qu := qu) (mo := mo) (li := li) (mm := mm) hq
  refine ⟨l', ?_, r2⟩
  have e1 := c21 (sc := sc) (f := f) (s := s) (c := c) (th := th) (be := be) (qu := qu) (mo := mo) (li := upL li q l') (mm := mm) hB hq (es := []) (mk := none) (by rw [upL_self]; exact r2) (fun p h => by cases h) (ob := act f q) (fun b h => (act_lt hq h).1)
  have e2 : encL ([], none) = [] := rfl
  rw [e2] at e1
  simp only [e16, s16_0, s16_0n, s16_1, s16_4, Option.bind_some, Option.bind_none, Option.toList_some, Option.toList_none, List.nil_append, List.cons_append, ↓reduceIte, reduceCtorEq, cl1_i, cl1_r, cl1_n, cl1_0, cl1_J, okS_0, okS_1, okS_2, okS_3, okS_4, bB_0, bB_and, z_0, z_1, z_10, bB_t, bB_f, Bool.true_eq_false, Bool.false_eq_true, gT0, gT1, gT2, gT3, gT4, gT5, gT6, gF0, gF1, gF2, gF3, gF4, gS0, gS1, gC0, gC1, iT, iF, iS, iC, sT6_0, sT6_1, sF2, sF3, sF4_0, sF4_1, sS1, sC1, gO0 hq, gO1 hq, gO2 hq, gO3 hq, gL0 hq, gL1 hq, gL2 hq, gL3 hq, gL4 hq, gL5 hq, gL6 hq, iO hq, iL hq, sL4 hq, sL5 hq, sL6 hq, r1]
  simp only [s16_7, s16_7n, s16_8, s16_8n, s16_9, Option.bind_some, Option.bind_none, Option.toList_some, Option.toList_none, List.nil_append, List.cons_append, ↓reduceIte, reduceCtorEq, cl1_i, cl1_r, cl1_n, cl1_0, cl1_J, okS_0, okS_1, okS_2, okS_3, okS_4, bB_0, bB_and, z_0, z_1, z_10, bB_t, bB_f, Bool.true_eq_false, Bool.false_eq_true, gT0, gT1, gT2, gT3, gT4, gT5, gT6, gF0, gF1, gF2, gF3, gF4, gS0, gS1, gC0, gC1, iT, iF, iS, iC, sT6_0, sT6_1, sF2, sF3, sF4_0, sF4_1, sS1, sC1, gO0 hq, gO1 hq, gO2 hq, gO3 hq, gL0 hq, gL1 hq, gL2 hq, gL3 hq, gL4 hq, gL5 hq, gL6 hq, iO hq, iL hq, sL4 hq, sL5 hq, sL6 hq, c14 hB hq]
  simp only [s16_12, Option.bind_some, Option.bind_none, Option.toList_some, Option.toList_none, List.nil_append, List.cons_append, ↓reduceIte, reduceCtorEq, cl1_i, cl1_r, cl1_n, cl1_0, cl1_J, okS_0, okS_1, okS_2, okS_3, okS_4, bB_0, bB_and, z_0, z_1, z_10, bB_t, bB_f, Bool.true_eq_false, Bool.false_eq_true, gT0, gT1, gT2, gT3, gT4, gT5, gT6, gF0, gF1, gF2, gF3, gF4, gS0, gS1, gC0, gC1, iT, iF, iS, iC, sT6_0, sT6_1, sF2, sF3, sF4_0, sF4_1, sS1, sC1, gO0 hq, gO1 hq, gO2 hq, gO3 hq, gL0 hq, gL1 hq, gL2 hq, gL3 hq, gL4 hq, gL5 hq, gL6 hq, iO hq, iL hq, sL4 hq, sL5 hq, sL6 hq, e1]
  simp only [s16_15, Option.bind_some, Option.bind_none, Option.toList_some, Option.toList_none, List.nil_append, List.cons_append, ↓reduceIte, reduceCtorEq, cl1_i, cl1_r, cl1_n, cl1_0, cl1_J, okS_0, okS_1, okS_2, okS_3, okS_4, bB_0, bB_and, z_0, z_1, z_10, bB_t, bB_f, Bool.true_eq_false, Bool.false_eq_true, gT0, gT1, gT2, gT3, gT4, gT5, gT6, gF0, gF1, gF2, gF3, gF4, gS0, gS1, gC0, gC1, iT, iF, iS, iC, sT6_0, sT6_1, sF2, sF3, sF4_0, sF4_1, sS1, sC1]
theorem c17 (hB : BOk f) (hq : q < 8) {st : Lst} (hL : LiR (li q) st.1 st.2) {os : List Opn} (hF : FitS st os) (hbs : (encS os).length ≤ 61) (hm : ∀ p, (apS st os).2 = some p → p.1 < 8) {b : Nat} (hact : act f q = some b) : ∃ l' s', RunM 17 [.ref (13 + 6 * q), .ref 11] (hp sc (fB f) s (opf j (encS os)) th be qu mo li mm) = some (some (.int (bB (cmF f b (encS os) (apS st os)).1)), (hp sc (fB (cmF f b (encS os) (apS st os)).2) (s') (opf j (encS os)) th be qu mo (upL li q l') mm)) ∧ LiR l' (apS st os).1 (apS st os).2 := by
  obtain ⟨l', r1, r2⟩ := c37c (sc := sc) (F := fB f) (s := s) (th := th) (be := be) (qu := qu) (mo := mo) (li := li) (mm := mm) (j := j) hq hL hF (by omega)
  obtain ⟨hb, -⟩ := act_lt hq hact
  obtain ⟨g1, g2⟩ := lEn_le (f := f) (b := b) 64 1 (by omega) (by omega)
  have ho : oI (some b) = nI b := rfl
  have e1 : nI (lE f b) + nI (encS os).length + 2 = nI (lE f b + (encS os).length + 2) := by
    rw [nI_add]
    exact nI_add _ 2
  have hg2 : lE f b ≤ 64 := g2
  have start : RunM 17 [.ref (13 + 6 * q), .ref 11] (hp sc (fB f) s (opf j (encS os)) th be qu mo li mm) = Run 17 29 [some (.ref (13 + 6 * q)), some (.ref 11), some (.int (nI b)), some (.int (nI (lE f b)))] [.int 64, .int (nI (lE f b + (encS os).length + 2))] (hp sc (fB f) s (opf j (encS os)) th be qu mo (upL li q l') mm) := by
    simp only [e17, s17_0, s17_0n, s17_1, s17_4, s17_4n, s17_5, Option.bind_some, Option.bind_none, Option.toList_some, Option.toList_none, List.nil_append, List.cons_append, ↓reduceIte, reduceCtorEq, cl1_i, cl1_r, cl1_n, cl1_0, cl1_J, okS_0, okS_1, okS_2, okS_3, okS_4, bB_0, bB_and, z_0, z_1, z_10, bB_t, bB_f, Bool.true_eq_false, Bool.false_eq_true, gT0, gT1, gT2, gT3, gT4, gT5, gT6, gF0, gF1, gF2, gF3, gF4, gS0, gS1, gC0, gC1, iT, iF, iS, iC, sT6_0, sT6_1, sF2, sF3, sF4_0, sF4_1, sS1, sC1, gO0 hq, gO1 hq, gO2 hq, gO3 hq, gL0 hq, gL1 hq, gL2 hq, gL3 hq, gL4 hq, gL5 hq, gL6 hq, iO hq, iL hq, sL4 hq, sL5 hq, sL6 hq, r1]
    simp only [s17_8, s17_8n, s17_9, Option.bind_some, Option.bind_none, Option.toList_some, Option.toList_none, List.nil_append, List.cons_append, ↓reduceIte, reduceCtorEq, cl1_i, cl1_r, cl1_n, cl1_0, cl1_J, okS_0, okS_1, okS_2, okS_3, okS_4, bB_0, bB_and, z_0, z_1, z_10, bB_t, bB_f, Bool.true_eq_false, Bool.false_eq_true, gT0, gT1, gT2, gT3, gT4, gT5, gT6, gF0, gF1, gF2, gF3, gF4, gS0, gS1, gC0, gC1, iT, iF, iS, iC, sT6_0, sT6_1, sF2, sF3, sF4_0, sF4_1, sS1, sC1, gO0 hq, gO1 hq, gO2 hq, gO3 hq, gL0 hq, gL1 hq, gL2 hq, gL3 hq, gL4 hq, gL5 hq, gL6 hq, iO hq, iL hq, sL4 hq, sL5 hq, sL6 hq, c14 hB hq, hact, ho]
    simp only [s17_12, s17_13, s17_13n, s17_14, s17_15, Option.bind_some, Option.bind_none, Option.toList_some, Option.toList_none, List.nil_append, List.cons_append, ↓reduceIte, reduceCtorEq, cl1_i, cl1_r, cl1_n, cl1_0, cl1_J, okS_0, okS_1, okS_2, okS_3, okS_4, bB_0, bB_and, z_0, z_1, z_10, bB_t, bB_f, Bool.true_eq_false, Bool.false_eq_true, gT0, gT1, gT2, gT3, gT4, gT5, gT6, gF0, gF1, gF2, gF3, gF4, gS0, gS1, gC0, gC1, iT, iF, iS, iC, sT6_0, sT6_1, sF2, sF3, sF4_0, sF4_1, sS1, sC1, gO0 hq, gO1 hq, gO2 hq, gO3 hq, gL0 hq, gL1 hq, gL2 hq, gL3 hq, gL4 hq, gL5 hq, gL6 hq, iO hq, iL hq, sL4 hq, sL5 hq, sL6 hq, c19 hB hq hb]
    simp only [s17_18, s17_19, s17_20, s17_20n, s17_21, s17_24, s17_25, s17_26, s17_27, Option.bind_some, Option.bind_none, Option.toList_some, Option.toList_none, List.nil_append, List.cons_append, ↓reduceIte, reduceCtorEq, cl1_i, cl1_r, cl1_n, cl1_0, cl1_J, okS_0, okS_1, okS_2, okS_3, okS_4, bB_0, bB_and, z_0, z_1, z_10, bB_t, bB_f, Bool.true_eq_false, Bool.false_eq_true, gT0, gT1, gT2, gT3, gT4, gT5, gT6, gF0, gF1, gF2, gF3, gF4, gS0, gS1, gC0, gC1, iT, iF, iS, iC, sT6_0, sT6_1, sF2, sF3, sF4_0, sF4_1, sS1, sC1, c44c, e1]
  have e2 : RunM 21 [.ref (13 + 6 * q), .int (nI b)] (hp sc (fB f) s (opf j (encS os)) th be qu mo (upL li q l') mm) = _ := c21 (li := upL li q l') hB hq (by rw [upL_self]; exact r2) hm (ob := some b) (fun x h => by cases h; exact hb)
  have anew : Run 17 55 [some (.ref (13 + 6 * q)), some (.ref 11), some (.int (nI b)), some (.int (nI (lE f b)))] [] (hp sc (fB f) s (opf j (encS os)) th be qu mo (upL li q l') mm) = some (some (.int (bB (anF f 0 (some b) (encL (apS st os))).1)), (hp sc (fB (anF f 0 (some b) (encL (apS st os))).2) (opf s.1 (encL (apS st os))) (opf j (encS os)) th be qu mo (upL li q l') mm)) := by
    simp only [s17_55, s17_55n, s17_56, s17_57, Option.bind_some, Option.bind_none, Option.toList_some, Option.toList_none, List.nil_append, List.cons_append, ↓reduceIte, reduceCtorEq, cl1_i, cl1_r, cl1_n, cl1_0, cl1_J, okS_0, okS_1, okS_2, okS_3, okS_4, bB_0, bB_and, z_0, z_1, z_10, bB_t, bB_f, Bool.true_eq_false, Bool.false_eq_true, gT0, gT1, gT2, gT3, gT4, gT5, gT6, gF0, gF1, gF2, gF3, gF4, gS0, gS1, gC0, gC1, iT, iF, iS, iC, sT6_0, sT6_1, sF2, sF3, sF4_0, sF4_1, sS1, sC1, gO0 hq, gO1 hq, gO2 hq, gO3 hq, gL0 hq, gL1 hq, gL2 hq, gL3 hq, gL4 hq, gL5 hq, gL6 hq, iO hq, iL hq, sL4 hq, sL5 hq, sL6 hq, e2]
    simp only [s17_60, Option.bind_some, Option.bind_none, Option.toList_some, Option.toList_none, List.nil_append, List.cons_append, ↓reduceIte, reduceCtorEq, cl1_i, cl1_r, cl1_n, cl1_0, cl1_J, okS_0, okS_1, okS_2, okS_3, okS_4, bB_0, bB_and, z_0, z_1, z_10, bB_t, bB_f, Bool.true_eq_false, Bool.false_eq_true, gT0, gT1, gT2, gT3, gT4, gT5, gT6, gF0, gF1, gF2, gF3, gF4, gS0, gS1, gC0, gC1, iT, iF, iS, iC, sT6_0, sT6_1, sF2, sF3, sF4_0, sF4_1, sS1, sC1]
    rfl
  by_cases h1 : lE f b + (encS os).length + 2 ≤ 64
  · have h2 : ¬ 64 < nI (lE f b + (encS os).length + 2) := nI_nlt (a := 64) h1 (by decide)
    have e3 : pk f (nI b) (nI (lE f b)) = f.1 (b * 64 + lE f b) := (pk_nI hB hb (by omega)).trans (hB _ (by omega)).1.symm
    by_cases h3 : f.1 (b * 64 + lE f b) = 255
    · refine ⟨l', s, ?_, r2⟩
      rw [start]
      simp only [s17_29, s17_32, s17_32n, s17_33, s17_36, s17_37, s17_38, s17_41, s17_44, Option.bind_some, Option.bind_none, Option.toList_some, Option.toList_none, List.nil_append, List.cons_append, ↓reduceIte, reduceCtorEq, cl1_i, cl1_r, cl1_n, cl1_0, cl1_J, okS_0, okS_1, okS_2, okS_3, okS_4, bB_0, bB_and, z_0, z_1, z_10, bB_t, bB_f, Bool.true_eq_false, Bool.false_eq_true, gT0, gT1, gT2, gT3, gT4, gT5, gT6, gF0, gF1, gF2, gF3, gF4, gS0, gS1, gC0, gC1, iT, iF, iS, iC, sT6_0, sT6_1, sF2, sF3, sF4_0, sF4_1, sS1, sC1, gO0 hq, gO1 hq, gO2 hq, gO3 hq, gL0 hq, gL1 hq, gL2 hq, gL3 hq, gL4 hq, gL5 hq, gL6 hq, iO hq, iL hq, sL4 hq, sL5 hq, sL6 hq, h2, c6, e3, h3]
      simp only [s17_47, s17_47n, s17_48, s17_49, s17_50, s17_50n, s17_51, Option.bind_some, Option.bind_none, Option.toList_some, Option.toList_none, List.nil_append, List.cons_append, ↓reduceIte, reduceCtorEq, cl1_i, cl1_r, cl1_n, cl1_0, cl1_J, okS_0, okS_1, okS_2, okS_3, okS_4, bB_0, bB_and, z_0, z_1, z_10, bB_t, bB_f, Bool.true_eq_false, Bool.false_eq_true, gT0, gT1, gT2, gT3, gT4, gT5, gT6, gF0, gF1, gF2, gF3, gF4, gS0, gS1, gC0, gC1, iT, iF, iS, iC, sT6_0, sT6_1, sF2, sF3, sF4_0, sF4_1, sS1, sC1, gO0 hq, gO1 hq, gO2 hq, gO3 hq, gL0 hq, gL1 hq, gL2 hq, gL3 hq, gL4 hq, gL5 hq, gL6 hq, iO hq, iL hq, sL4 hq, sL5 hq, sL6 hq, c22c (li := upL li q l') hq hb h1]
      simp only [s17_54, Option.bind_some, Option.bind_none, Option.toList_some, Option.toList_none, List.nil_append, List.cons_append, ↓reduceIte, reduceCtorEq, cl1_i, cl1_r, cl1_n, cl1_0, cl1_J, okS_0, okS_1, okS_2, okS_3, okS_4, bB_0, bB_and, z_0, z_1, z_10, bB_t, bB_f, Bool.true_eq_false, Bool.false_eq_true, gT0, gT1, gT2, gT3, gT4, gT5, gT6, gF0, gF1, gF2, gF3, gF4, gS0, gS1, gC0, gC1, iT, iF, iS, iC, sT6_0, sT6_1, sF2, sF3, sF4_0, sF4_1, sS1, sC1]
      rw [cmF, if_pos ⟨h1, h3⟩]
    · refine ⟨l', opf s.1 (encL (apS st os)), ?_, r2⟩
      rw [start]
      simp only [s17_29, s17_32, s17_32n, s17_33, s17_36, s17_37, s17_38, s17_41, s17_44, Option.bind_some, Option.bind_none, Option.toList_some, Option.toList_none, List.nil_append, List.cons_append, ↓reduceIte, reduceCtorEq, cl1_i, cl1_r, cl1_n, cl1_0, cl1_J, okS_0, okS_1, okS_2, okS_3, okS_4, bB_0, bB_and, z_0, z_1, z_10, bB_t, bB_f, Bool.true_eq_false, Bool.false_eq_true, gT0, gT1, gT2, gT3, gT4, gT5, gT6, gF0, gF1, gF2, gF3, gF4, gS0, gS1, gC0, gC1, iT, iF, iS, iC, sT6_0, sT6_1, sF2, sF3, sF4_0, sF4_1, sS1, sC1, gO0 hq, gO1 hq, gO2 hq, gO3 hq, gL0 hq, gL1 hq, gL2 hq, gL3 hq, gL4 hq, gL5 hq, gL6 hq, iO hq, iL hq, sL4 hq, sL5 hq, sL6 hq, h2, c6, e3, h3]
      rw [anew, cmF, if_neg (fun q9 => h3 q9.2)]
  · have h2 : 64 < nI (lE f b + (encS os).length + 2) := nI_lt (a := 64) (by omega) (by omega)
    refine ⟨l', opf s.1 (encL (apS st os)), ?_, r2⟩
    rw [start]
    simp only [s17_29, Option.bind_some, Option.bind_none, Option.toList_some, Option.toList_none, List.nil_append, List.cons_append, ↓reduceIte, reduceCtorEq, cl1_i, cl1_r, cl1_n, cl1_0, cl1_J, okS_0, okS_1, okS_2, okS_3, okS_4, bB_0, bB_and, z_0, z_1, z_10, bB_t, bB_f, Bool.true_eq_false, Bool.false_eq_true, gT0, gT1, gT2, gT3, gT4, gT5, gT6, gF0, gF1, gF2, gF3, gF4, gS0, gS1, gC0, gC1, iT, iF, iS, iC, sT6_0, sT6_1, sF2, sF3, sF4_0, sF4_1, sS1, sC1, h2]
    rw [anew, cmF, if_neg (fun q9 => h1 q9.1)]
end CMT
