/-! ===== Listing: operations applied ===== -/
abbrev Opn : Type := Nat × Nat × Nat × List Nat
abbrev Lst : Type := List En × Option (Nat × Nat)
def encO (o : Opn) : List Int32 := match o.1 with
  | 1 => 1 :: nI o.2.1 :: nI o.2.2.2.length :: o.2.2.2.map nI
  | 2 => [2, nI o.2.1, nI o.2.2.1]
  | 3 => [3, nI o.2.1]
  | 4 => [4, nI o.2.1, nI o.2.2.1]
  | _ => [5]
def vB (xs : List Nat) : Int64 := ctO (xs.map nI) 0 xs.length
def goneE (es : List En) (a : Nat) : List En := match fiE es (nI a) with
  | some k => es.eraseIdx k
  | none => es
def apO (st : Lst) (o : Opn) : Lst := match o.1 with
  | 1 => (putE st.1 (o.2.1, 1, o.2.2.2.length, vB o.2.2.2), st.2)
  | 2 => (putE st.1 (o.2.1, 2, o.2.2.1, 0), st.2)
  | 3 => (goneE st.1 o.2.1, st.2)
  | 4 => (st.1, some (o.2.1, o.2.2.1))
  | _ => (st.1, none)
/-- a good operation -/
def OkO (o : Opn) : Prop := (o.1 = 1 ∧ 1 ≤ o.2.1 ∧ o.2.1 ≤ 99 ∧ o.2.2.2.length ≤ 6 ∧ ∀ x ∈ o.2.2.2, x < 256) ∨ (o.1 = 2 ∧ 1 ≤ o.2.1 ∧ o.2.1 ≤ 99 ∧ o.2.2.1 < 8) ∨ (o.1 = 3 ∧ o.2.1 ≤ 99) ∨ (o.1 = 4 ∧ o.2.1 < 8 ∧ 1 ≤ o.2.2.1 ∧ o.2.2.1 ≤ 99) ∨ o.1 = 5
def FitO (st : Lst) (o : Opn) : Prop := (o.1 = 1 ∨ o.1 = 2) → fiE st.1 (nI o.2.1) = none → st.1.length < 4
def FitS : Lst → List Opn → Prop
  | _, [] => True
  | st, o :: os => (OkO o ∧ FitO st o) ∧ FitS (apO st o) os
theorem ctO_eq {bs cs : List Int32} {i k : Nat} : ∀ n, (∀ t, t < n → bs.getD (i + t) 0 = cs.getD (k + t) 0) → ctO bs i n = ctO cs k n := by
  intro n
  induction n with
  | zero => intro _; rfl
  | succ n ih =>
    intro h
    unfold ctO
    rw [ih (fun t ht => h t (by omega)), h n (by omega)]
theorem getD_drop {bs : List Int32} {p : Nat} {xs rest : List Int32} (h : bs.drop p = xs ++ rest) {t : Nat} (ht : t < xs.length) : bs.getD (p + t) 0 = xs.getD t 0 := by
  have h1 : (bs.drop p)[t]? = bs[p + t]? := by rw [List.getElem?_drop]
  rw [List.getD_eq_getElem?_getD, ← h1, h, List.getElem?_append_left ht, ← List.getD_eq_getElem?_getD]
theorem encO_pos (o : Opn) : 0 < (encO o).length := by
  unfold encO
  split <;> simp
section APP
variable {sc : AC} {F : FlS} {s c : OpS} {th be qu : Nat → Int32} {mo : Int32} {li : Nat → LiS} {mm : AH} {q : Nat} {es : List En} {mk : Option (Nat × Nat)}
theorem c40 (hq : q < 8) (hL : LiR (li q) es mk) {a : Nat} : ∃ l', RunM 40 [.ref (14 + 6 * q), .int (oI (fiE es (nI a)))] (hp sc F s c th be qu mo li mm) = some (none, hp sc F s c th be qu mo (upL li q l') mm) ∧ LiR l' (goneE es a) mk := by
  have h4 := hL.1
  cases hx : fiE es (nI a) with
  | none =>
    refine ⟨li q, ?_, by simpa [goneE, hx] using hL⟩
    have ho : oI none = -1 := rfl
    have hb : inB (-1) es.length = false := inB_f1 (by decide)
    simp only [e40, s40_0, s40_0n, s40_1, s40_2, s40_5, s40_8, Option.bind_some, Option.bind_none, Option.toList_some, Option.toList_none, List.nil_append, List.cons_append, ↓reduceIte, reduceCtorEq, cl1_i, cl1_r, cl1_n, cl1_0, cl1_J, okS_0, okS_1, okS_2, okS_3, okS_4, bB_0, bB_and, z_0, z_1, z_10, bB_t, bB_f, Bool.true_eq_false, Bool.false_eq_true, gT0, gT1, gT2, gT3, gT4, gT5, gT6, gF0, gF1, gF2, gF3, gF4, gS0, gS1, gC0, gC1, iT, iF, iS, iC, sT6_0, sT6_1, sF2, sF3, sF4_0, sF4_1, sS1, sC1, gO0 hq, gO1 hq, gO2 hq, gO3 hq, gL0 hq, gL1 hq, gL2 hq, gL3 hq, gL4 hq, gL5 hq, gL6 hq, iO hq, iL hq, sL4 hq, sL5 hq, sL6 hq, c41 hq hL, ho, hb, upL_id]
  | some k =>
    have hk := (fiE_lt hx).1
    obtain ⟨l', r1, r2⟩ := c40_loop (sc := sc) (F := F) (s := s) (c := c) (th := th) (be := be) (qu := qu) (mo := mo) (mm := mm) (li := li) (mk := mk) hq h4 (fun i e hi => (hL.2.2.1 i e hi).2) hk (es.length - (k + 1)) k (li q) (by omega) (Nat.le_refl _) ⟨hL.2.1, fun i e hi hie => by
      rw [List.getElem?_eraseIdx, if_pos (by omega)] at hie
      exact (hL.2.2.1 i e hie).1, fun i e hi hie => (hL.2.2.1 i e hie).1⟩ hL.2.2.2
    refine ⟨l', ?_, by simpa [goneE, hx] using r2⟩
    have ho : oI (some k) = nI k := rfl
    rw [← r1, upL_id]
    simp only [e40, s40_0, s40_0n, s40_1, s40_2, s40_5, s40_8, s40_9, s40_10, Option.bind_some, Option.bind_none, Option.toList_some, Option.toList_none, List.nil_append, List.cons_append, ↓reduceIte, reduceCtorEq, cl1_i, cl1_r, cl1_n, cl1_0, cl1_J, okS_0, okS_1, okS_2, okS_3, okS_4, bB_0, bB_and, z_0, z_1, z_10, bB_t, bB_f, Bool.true_eq_false, Bool.false_eq_true, gT0, gT1, gT2, gT3, gT4, gT5, gT6, gF0, gF1, gF2, gF3, gF4, gS0, gS1, gC0, gC1, iT, iF, iS, iC, sT6_0, sT6_1, sF2, sF3, sF4_0, sF4_1, sS1, sC1, gO0 hq, gO1 hq, gO2 hq, gO3 hq, gL0 hq, gL1 hq, gL2 hq, gL3 hq, gL4 hq, gL5 hq, gL6 hq, iO hq, iL hq, sL4 hq, sL5 hq, sL6 hq, c41 hq hL, ho, inB_nI hk (show es.length < 2 ^ 31 by omega)]
end APP
section APPW
variable {sc : AC} {F : FlS} {o2 : OpS} {th be qu : Nat → Int32} {mo : Int32} {li : Nat → LiS} {mm : AH} {q : Nat} {es : List En} {mk : Option (Nat × Nat)} {w : Bool} {j : Nat → Int32} {bs : List Int32} {o : OpS}
theorem iLw (hq : q < 8) : isO (hw w sc F o o2 th be qu mo li mm) (14 + 6 * q) 2 = true := by cases w <;> exact iL hq
theorem c28w (hq : q < 8) (hL : LiR (li q) es mk) {x : Int32} : RunM 28 [.ref (14 + 6 * q), .int x] (hw w sc F o o2 th be qu mo li mm) = some (some (.int (oI (fiE es x))), hw w sc F o o2 th be qu mo li mm) := by cases w <;> exact c28 hq hL
theorem c39w (hq : q < 8) (hL : LiR (li q) es mk) {e : En} (he : OkE e) (hf : fiE es (nI e.1) = none → es.length < 4) : ∃ l', RunM 39 [.ref (14 + 6 * q), .int (nI e.1), .int (enPr e), .int (enLn e), .long e.2.2.2] (hw w sc F o o2 th be qu mo li mm) = some (none, hw w sc F o o2 th be qu mo (upL li q l') mm) ∧ LiR l' (putE es e) mk := by cases w <;> exact c39 hq hL he hf
theorem c40w (hq : q < 8) (hL : LiR (li q) es mk) {a : Nat} : ∃ l', RunM 40 [.ref (14 + 6 * q), .int (oI (fiE es (nI a)))] (hw w sc F o o2 th be qu mo li mm) = some (none, hw w sc F o o2 th be qu mo (upL li q l') mm) ∧ LiR l' (goneE es a) mk := by cases w <;> exact c40 hq hL
theorem sL5w (hq : q < 8) {v : Int32} : stf (hw w sc F o o2 th be qu mo li mm) (14 + 6 * q) 2 5 (.int v) = some (hw w sc F o o2 th be qu mo (upL li q ((li q).1, (li q).2.1, (li q).2.2.1, (li q).2.2.2.1, ((li q).2.2.2.2.1, v, (li q).2.2.2.2.2.2))) mm) := by cases w <;> exact sL5 hq
theorem sL6w (hq : q < 8) {v : Int32} : stf (hw w sc F o o2 th be qu mo li mm) (14 + 6 * q) 2 6 (.int v) = some (hw w sc F o o2 th be qu mo (upL li q ((li q).1, (li q).2.1, (li q).2.2.1, (li q).2.2.2.1, ((li q).2.2.2.2.1, (li q).2.2.2.2.2.1, v))) mm) := by cases w <;> exact sL6 hq
theorem tbl1 {L : AL} {S : List Value} {h : AH} : Run 38 22 L (.int 1 :: S) h = Run 38 56 L S h := by rw [s38_22]; rfl
theorem tbl2 {L : AL} {S : List Value} {h : AH} : Run 38 22 L (.int 2 :: S) h = Run 38 78 L S h := by rw [s38_22]; rfl
theorem tbl3 {L : AL} {S : List Value} {h : AH} : Run 38 22 L (.int 3 :: S) h = Run 38 89 L S h := by rw [s38_22]; rfl
theorem tbl4 {L : AL} {S : List Value} {h : AH} : Run 38 22 L (.int 4 :: S) h = Run 38 100 L S h := by rw [s38_22]; rfl
theorem tbl5 {L : AL} {S : List Value} {h : AH} : Run 38 22 L (.int 5 :: S) h = Run 38 113 L S h := by rw [s38_22]; rfl
theorem c38 (hq : q < 8) (hL : LiR (li q) es mk) {op : Opn} (hok : OkO op) (hf : FitO (es, mk) op) {p : Nat} {rest : List Int32} (hb : bs.length ≤ 64) (hp : bs.drop p = encO op ++ rest) : ∃ l', RunM 38 [.ref (14 + 6 * q), .ref (aw w), .int (nI p)] (hw w sc F (opf j bs) o2 th be qu mo li mm) = some (some (.int (nI (encO op).length)), hw w sc F (opf j bs) o2 th be qu mo (upL li q l') mm) ∧ LiR l' (apO (es, mk) op).1 (apO (es, mk) op).2 := by
  have hpl : p < 64 := by
    have h1 : 0 < (bs.drop p).length := by rw [hp, List.length_append]; have := encO_pos op; omega
    rw [List.length_drop] at h1
    omega
  have g := fun t (ht : t < (encO op).length) => getD_drop hp ht
  have start : ∀ {k a b : Int32}, bs.getD (p + 1) 0 = a → bs.getD (p + 2) 0 = b → bs.getD p 0 = k → RunM 38 [.ref (14 + 6 * q), .ref (aw w), .int (nI p)] (hw w sc F (opf j bs) o2 th be qu mo li mm) = Run 38 22 [some (.ref (14 + 6 * q)), some (.ref (aw w)), some (.int (nI p)), some (.int a), some (.int b)] [.int k] (hw w sc F (opf j bs) o2 th be qu mo li mm) := by
    intro k a b h1 h2 h3
    have e2 : nI p + 2 = nI (p + 2) := nI_add p 2
    simp only [e38, s38_0, s38_0n, s38_1, s38_2, s38_3, s38_4, Option.bind_some, Option.bind_none, Option.toList_some, Option.toList_none, List.nil_append, List.cons_append, ↓reduceIte, reduceCtorEq, cl1_i, cl1_r, cl1_n, cl1_0, cl1_J, okS_0, okS_1, okS_2, okS_3, okS_4, bB_0, bB_and, z_0, z_1, z_10, bB_t, bB_f, Bool.true_eq_false, Bool.false_eq_true, gT0, gT1, gT2, gT3, gT4, gT5, gT6, gF0, gF1, gF2, gF3, gF4, gS0, gS1, gC0, gC1, iT, iF, iS, iC, sT6_0, sT6_1, sF2, sF3, sF4_0, sF4_1, sS1, sC1, iW, nI_1]
    rw [c45 (by omega) hb, h1]
    simp only [s38_7, s38_8, s38_8n, s38_9, s38_10, s38_11, s38_12, Option.bind_some, Option.bind_none, Option.toList_some, Option.toList_none, List.nil_append, List.cons_append, ↓reduceIte, reduceCtorEq, cl1_i, cl1_r, cl1_n, cl1_0, cl1_J, okS_0, okS_1, okS_2, okS_3, okS_4, bB_0, bB_and, z_0, z_1, z_10, bB_t, bB_f, Bool.true_eq_false, Bool.false_eq_true, gT0, gT1, gT2, gT3, gT4, gT5, gT6, gF0, gF1, gF2, gF3, gF4, gS0, gS1, gC0, gC1, iT, iF, iS, iC, sT6_0, sT6_1, sF2, sF3, sF4_0, sF4_1, sS1, sC1, iW, e2]
    rw [c45 (by omega) hb, h2]
    simp only [s38_15, s38_17, s38_17n, s38_18, s38_19, Option.bind_some, Option.bind_none, Option.toList_some, Option.toList_none, List.nil_append, List.cons_append, ↓reduceIte, reduceCtorEq, cl1_i, cl1_r, cl1_n, cl1_0, cl1_J, okS_0, okS_1, okS_2, okS_3, okS_4, bB_0, bB_and, z_0, z_1, z_10, bB_t, bB_f, Bool.true_eq_false, Bool.false_eq_true, gT0, gT1, gT2, gT3, gT4, gT5, gT6, gF0, gF1, gF2, gF3, gF4, gS0, gS1, gC0, gC1, iT, iF, iS, iC, sT6_0, sT6_1, sF2, sF3, sF4_0, sF4_1, sS1, sC1, iW]
    rw [c45 (by omega) hb, h3]
    simp only [Option.bind_some, Option.bind_none, Option.toList_some, Option.toList_none, List.nil_append, List.cons_append, ↓reduceIte, reduceCtorEq, cl1_i, cl1_r, cl1_n, cl1_0, cl1_J, okS_0, okS_1, okS_2, okS_3, okS_4, bB_0, bB_and, z_0, z_1, z_10, bB_t, bB_f, Bool.true_eq_false, Bool.false_eq_true, gT0, gT1, gT2, gT3, gT4, gT5, gT6, gF0, gF1, gF2, gF3, gF4, gS0, gS1, gC0, gC1, iT, iF, iS, iC, sT6_0, sT6_1, sF2, sF3, sF4_0, sF4_1, sS1, sC1]
  obtain ⟨k, a, b, xs⟩ := op
  have g0 := g 0 (encO_pos _)
  rw [Nat.add_zero] at g0
  rcases hok with ⟨hk, h1, h2, h3, h4⟩ | ⟨hk, h1, h2, h3⟩ | ⟨hk, h2⟩ | ⟨hk, h1, h2, h3⟩ | hk
  · dsimp only at hk h1 h2 h3 h4
    subst hk
    have g1 := g 1 (by simp [encO])
    have g2 := g 2 (by simp [encO])
    obtain ⟨l', r1, r2⟩ := c39w (w := w) (sc := sc) (F := F) (o := opf j bs) (o2 := o2) (th := th) (be := be) (qu := qu) (mo := mo) (mm := mm) hq hL (e := (a, 1, xs.length, vB xs)) ⟨h1, h2, Or.inl ⟨rfl, h3⟩⟩ (hf (Or.inl rfl))
    refine ⟨l', ?_, r2⟩
    rw [start g1 g2 g0]
    have e3 : nI p + 3 = nI (p + 3) := nI_add p 3
    have e4 : (encO (1, a, b, xs)).getD 1 0 = nI a := rfl
    have e5 : (encO (1, a, b, xs)).getD 2 0 = nI xs.length := rfl
    have e6 : (encO (1, a, b, xs)).getD 0 0 = 1 := rfl
    rw [e4, e5, e6, tbl1]
    simp only [s38_56, s38_56n, s38_57, s38_58, s38_59, s38_61, s38_61n, s38_62, s38_63, s38_64, s38_65, s38_67, Option.bind_some, Option.bind_none, Option.toList_some, Option.toList_none, List.nil_append, List.cons_append, ↓reduceIte, reduceCtorEq, cl1_i, cl1_r, cl1_n, cl1_0, cl1_J, okS_0, okS_1, okS_2, okS_3, okS_4, bB_0, bB_and, z_0, z_1, z_10, bB_t, bB_f, Bool.true_eq_false, Bool.false_eq_true, gT0, gT1, gT2, gT3, gT4, gT5, gT6, gF0, gF1, gF2, gF3, gF4, gS0, gS1, gC0, gC1, iT, iF, iS, iC, sT6_0, sT6_1, sF2, sF3, sF4_0, sF4_1, sS1, sC1, iW, e3]
    rw [c52 h3 (by omega) hb]
    have e7 : ctO bs (p + 3) xs.length = vB xs := by
      refine ctO_eq _ fun t ht => ?_
      have := g (3 + t) (by simp [encO]; omega)
      rw [show p + (3 + t) = p + 3 + t by omega] at this
      rw [this, Nat.zero_add]
      simp only [encO, List.getD_eq_getElem?_getD]
      rw [show 3 + t = t + 1 + 1 + 1 by omega, List.getElem?_cons_succ, List.getElem?_cons_succ, List.getElem?_cons_succ]
    rw [e7]
    simp only [s38_70, Option.bind_some, Option.bind_none, Option.toList_some, Option.toList_none, List.nil_append, List.cons_append, ↓reduceIte, reduceCtorEq, cl1_i, cl1_r, cl1_n, cl1_0, cl1_J, okS_0, okS_1, okS_2, okS_3, okS_4, bB_0, bB_and, z_0, z_1, z_10, bB_t, bB_f, Bool.true_eq_false, Bool.false_eq_true, gT0, gT1, gT2, gT3, gT4, gT5, gT6, gF0, gF1, gF2, gF3, gF4, gS0, gS1, gC0, gC1, iT, iF, iS, iC, sT6_0, sT6_1, sF2, sF3, sF4_0, sF4_1, sS1, sC1, iLw hq]
    have e8 : enPr (a, 1, xs.length, vB xs) = -1 := rfl
    have e9 : enLn (a, 1, xs.length, vB xs) = nI xs.length := rfl
    rw [e8, e9] at r1
    rw [r1]
    simp only [s38_73, s38_74, s38_76, s38_77, Option.bind_some, Option.bind_none, Option.toList_some, Option.toList_none, List.nil_append, List.cons_append, ↓reduceIte, reduceCtorEq, cl1_i, cl1_r, cl1_n, cl1_0, cl1_J, okS_0, okS_1, okS_2, okS_3, okS_4, bB_0, bB_and, z_0, z_1, z_10, bB_t, bB_f, Bool.true_eq_false, Bool.false_eq_true, gT0, gT1, gT2, gT3, gT4, gT5, gT6, gF0, gF1, gF2, gF3, gF4, gS0, gS1, gC0, gC1, iT, iF, iS, iC, sT6_0, sT6_1, sF2, sF3, sF4_0, sF4_1, sS1, sC1]
    have e10 : (3 : Int32) + nI xs.length = nI (encO (1, a, b, xs)).length := by
      show nI 3 + nI xs.length = _
      rw [nI_add]
      simp [encO]
      congr 1
      omega
    rw [e10]
  · dsimp only at hk h1 h2 h3
    subst hk
    have g1 := g 1 (by simp [encO])
    have g2 := g 2 (by simp [encO])
    obtain ⟨l', r1, r2⟩ := c39w (w := w) (sc := sc) (F := F) (o := opf j bs) (o2 := o2) (th := th) (be := be) (qu := qu) (mo := mo) (mm := mm) hq hL (e := (a, 2, b, 0)) ⟨h1, h2, Or.inr ⟨rfl, h3, rfl⟩⟩ (hf (Or.inr rfl))
    refine ⟨l', ?_, r2⟩
    rw [start g1 g2 g0]
    have e4 : (encO (2, a, b, xs)).getD 1 0 = nI a := rfl
    have e5 : (encO (2, a, b, xs)).getD 2 0 = nI b := rfl
    have e6 : (encO (2, a, b, xs)).getD 0 0 = 2 := rfl
    rw [e4, e5, e6, tbl2]
    simp only [s38_78, s38_78n, s38_79, s38_80, s38_82, s38_83, s38_84, Option.bind_some, Option.bind_none, Option.toList_some, Option.toList_none, List.nil_append, List.cons_append, ↓reduceIte, reduceCtorEq, cl1_i, cl1_r, cl1_n, cl1_0, cl1_J, okS_0, okS_1, okS_2, okS_3, okS_4, bB_0, bB_and, z_0, z_1, z_10, bB_t, bB_f, Bool.true_eq_false, Bool.false_eq_true, gT0, gT1, gT2, gT3, gT4, gT5, gT6, gF0, gF1, gF2, gF3, gF4, gS0, gS1, gC0, gC1, iT, iF, iS, iC, sT6_0, sT6_1, sF2, sF3, sF4_0, sF4_1, sS1, sC1, iLw hq]
    have e8 : enPr (a, 2, b, 0) = nI b := rfl
    have e9 : enLn (a, 2, b, 0) = 0 := rfl
    rw [e8, e9] at r1
    rw [r1]
    simp only [s38_87, s38_88, Option.bind_some, Option.bind_none, Option.toList_some, Option.toList_none, List.nil_append, List.cons_append, ↓reduceIte, reduceCtorEq, cl1_i, cl1_r, cl1_n, cl1_0, cl1_J, okS_0, okS_1, okS_2, okS_3, okS_4, bB_0, bB_and, z_0, z_1, z_10, bB_t, bB_f, Bool.true_eq_false, Bool.false_eq_true, gT0, gT1, gT2, gT3, gT4, gT5, gT6, gF0, gF1, gF2, gF3, gF4, gS0, gS1, gC0, gC1, iT, iF, iS, iC, sT6_0, sT6_1, sF2, sF3, sF4_0, sF4_1, sS1, sC1]
    rfl
  · dsimp only at hk h2
    subst hk
    have g1 := g 1 (by simp [encO])
    obtain ⟨l', r1, r2⟩ := c40w (w := w) (sc := sc) (F := F) (o := opf j bs) (o2 := o2) (th := th) (be := be) (qu := qu) (mo := mo) (mm := mm) hq hL (a := a)
    refine ⟨l', ?_, r2⟩
    rw [start g1 rfl g0]
    have e4 : (encO (3, a, b, xs)).getD 1 0 = nI a := rfl
    have e6 : (encO (3, a, b, xs)).getD 0 0 = 3 := rfl
    rw [e4, e6, tbl3]
    simp only [s38_89, s38_89n, s38_90, s38_90n, s38_91, s38_92, s38_95, Option.bind_some, Option.bind_none, Option.toList_some, Option.toList_none, List.nil_append, List.cons_append, ↓reduceIte, reduceCtorEq, cl1_i, cl1_r, cl1_n, cl1_0, cl1_J, okS_0, okS_1, okS_2, okS_3, okS_4, bB_0, bB_and, z_0, z_1, z_10, bB_t, bB_f, Bool.true_eq_false, Bool.false_eq_true, gT0, gT1, gT2, gT3, gT4, gT5, gT6, gF0, gF1, gF2, gF3, gF4, gS0, gS1, gC0, gC1, iT, iF, iS, iC, sT6_0, sT6_1, sF2, sF3, sF4_0, sF4_1, sS1, sC1, iLw hq, c28w hq hL, r1]
    simp only [s38_98, s38_99, Option.bind_some, Option.bind_none, Option.toList_some, Option.toList_none, List.nil_append, List.cons_append, ↓reduceIte, reduceCtorEq, cl1_i, cl1_r, cl1_n, cl1_0, cl1_J, okS_0, okS_1, okS_2, okS_3, okS_4, bB_0, bB_and, z_0, z_1, z_10, bB_t, bB_f, Bool.true_eq_false, Bool.false_eq_true, gT0, gT1, gT2, gT3, gT4, gT5, gT6, gF0, gF1, gF2, gF3, gF4, gS0, gS1, gC0, gC1, iT, iF, iS, iC, sT6_0, sT6_1, sF2, sF3, sF4_0, sF4_1, sS1, sC1]
    rfl
  · dsimp only at hk h1 h2 h3
    subst hk
    have g1 := g 1 (by simp [encO])
    have g2 := g 2 (by simp [encO])
    refine ⟨((li q).1, (li q).2.1, (li q).2.2.1, (li q).2.2.2.1, (li q).2.2.2.2.1, nI a, nI b), ?_, hL.1, hL.2.1, hL.2.2.1, rfl, rfl⟩
    rw [start g1 g2 g0]
    have e4 : (encO (4, a, b, xs)).getD 1 0 = nI a := rfl
    have e5 : (encO (4, a, b, xs)).getD 2 0 = nI b := rfl
    have e6 : (encO (4, a, b, xs)).getD 0 0 = 4 := rfl
    rw [e4, e5, e6, tbl4]
    simp only [s38_100, s38_100n, s38_101, s38_102, s38_105, s38_105n, s38_106, s38_108, s38_111, s38_112, Option.bind_some, Option.bind_none, Option.toList_some, Option.toList_none, List.nil_append, List.cons_append, ↓reduceIte, reduceCtorEq, cl1_i, cl1_r, cl1_n, cl1_0, cl1_J, okS_0, okS_1, okS_2, okS_3, okS_4, bB_0, bB_and, z_0, z_1, z_10, bB_t, bB_f, Bool.true_eq_false, Bool.false_eq_true, gT0, gT1, gT2, gT3, gT4, gT5, gT6, gF0, gF1, gF2, gF3, gF4, gS0, gS1, gC0, gC1, iT, iF, iS, iC, sT6_0, sT6_1, sF2, sF3, sF4_0, sF4_1, sS1, sC1, sL5w hq, sL6w hq, upL_self, upL_up]
    rfl
  · dsimp only at hk
    subst hk
    refine ⟨((li q).1, (li q).2.1, (li q).2.2.1, (li q).2.2.2.1, (li q).2.2.2.2.1, -1, (li q).2.2.2.2.2.2), ?_, hL.1, hL.2.1, hL.2.2.1, rfl⟩
    rw [start rfl rfl g0]
    have e6 : (encO (5, a, b, xs)).getD 0 0 = 5 := rfl
    rw [e6, tbl5]
    simp only [s38_113, s38_113n, s38_114, s38_115, s38_118, s38_119, Option.bind_some, Option.bind_none, Option.toList_some, Option.toList_none, List.nil_append, List.cons_append, ↓reduceIte, reduceCtorEq, cl1_i, cl1_r, cl1_n, cl1_0, cl1_J, okS_0, okS_1, okS_2, okS_3, okS_4, bB_0, bB_and, z_0, z_1, z_10, bB_t, bB_f, Bool.true_eq_false, Bool.false_eq_true, gT0, gT1, gT2, gT3, gT4, gT5, gT6, gF0, gF1, gF2, gF3, gF4, gS0, gS1, gC0, gC1, iT, iF, iS, iC, sT6_0, sT6_1, sF2, sF3, sF4_0, sF4_1, sS1, sC1, sL5w hq]
    rfl
end APPW
