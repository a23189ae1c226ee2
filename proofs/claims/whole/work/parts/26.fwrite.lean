/-! ===== Flash: work in units; what stands in it as bytes ===== -/
def prg (f : FB) (a : Nat) (v : Int32) : Bool × FB := if (spd f).1 = true then (true, (upd (spd f).2.1 a (v &&& 255), (spd f).2.2)) else (false, (spd f).2)
def ersC (cl : Nat → Int32) (b n : Nat) : Nat → Int32 := fun k => if b * 64 ≤ k ∧ k < b * 64 + n then 255 else cl k
def ers (f : FB) (b : Nat) : Bool × FB := if (spd f).1 = true then (true, (ersC (spd f).2.1 b 64, upd (spd f).2.2.1 b ((spd f).2.2.1 b + 1), (spd f).2.2.2)) else (false, (spd f).2)
def wr (f : FB) (a : Nat) : List Int32 → Bool × FB
  | [] => (true, f)
  | v :: vs => if (prg f a v).1 = true then wr (prg f a v).2 (a + 1) vs else (false, (prg f a v).2)
theorem prg_mask (f : FB) (a : Nat) (v : Int32) : prg f a (v &&& 255) = prg f a v := by
  have h : v &&& 255 &&& 255 = v &&& 255 := by
    rw [Int32.and_assoc]
    rfl
  simp only [prg, h]
theorem ersC_0 (cl : Nat → Int32) (b : Nat) : ersC cl b 0 = cl := by
  funext k
  unfold ersC
  rw [if_neg (by omega)]
theorem ersC_succ (cl : Nat → Int32) (b n : Nat) : upd (ersC cl b n) (b * 64 + n) 255 = ersC cl b (n + 1) := by
  funext k
  unfold upd ersC
  by_cases h : k = b * 64 + n
  · rw [if_pos h, if_pos (by omega)]
  · rw [if_neg h]
    by_cases h2 : b * 64 ≤ k ∧ k < b * 64 + n
    · rw [if_pos h2, if_pos (by omega)]
    · rw [if_neg h2, if_neg (by omega)]
/-- the byte at a place -/
def gB (f : FB) (j : Nat) : Nat := (f.1 j).toNatClampNeg
def BOk (f : FB) : Prop := ∀ j, j < 1024 → f.1 j = nI (gB f j) ∧ gB f j < 256
/-- the offset behind the record at e, if it counts -/
def nx (f : FB) (b e : Nat) : Option Nat := if e < 64 ∧ e + 1 + gB f (b * 64 + e) < 64 ∧ gB f (b * 64 + (e + 1 + gB f (b * 64 + e))) = 0 then some (e + 1 + gB f (b * 64 + e) + 1) else none
theorem inB_no {k n : Nat} (h : n ≤ k) (hk : k < 2 ^ 31) : inB (nI k) n = false := by
  simp only [inB, Bool.and_eq_false_iff, decide_eq_false_iff_not]
  rw [nI_toInt hk]
  omega
theorem pk_nI {f : FB} (hB : BOk f) {b o : Nat} (hb : b < 16) (ho : o < 64) : pk f (nI b) (nI o) = nI (gB f (b * 64 + o)) := by
  rw [pk, if_pos ⟨inB_nI hb (by decide), inB_nI ho (by decide)⟩, nI_clamp (by omega), nI_clamp (by omega)]
  exact (hB _ (by omega)).1
theorem pk_out {f : FB} {b : Int32} {o : Nat} (ho : 64 ≤ o) (h2 : o < 2 ^ 31) : pk f b (nI o) = -1 := by
  rw [pk, if_neg]
  rw [inB_no ho h2]
  simp
theorem pk_neg {f : FB} {o : Int32} : pk f (-1) o = -1 := by
  rw [pk, if_neg]
  rw [inB_f1 (by decide)]
  simp
section FW
variable {sc : AC} {f : FB} {s c : OpS} {th be qu : Nat → Int32} {mo : Int32} {li : Nat → LiS} {mm : AH}
theorem c7 {b o : Nat} {v : Int32} (hb : b < 16) (ho : o < 64) : RunM 7 [.ref 2, .int (nI b), .int (nI o), .int v] (hp sc (fB f) s c th be qu mo li mm) = some (some (.int (bB (prg f (b * 64 + o) v).1)), (hp sc (fB (prg f (b * 64 + o) v).2) s c th be qu mo li mm)) := by
  have h1 : inB (nI b) 16 = true := inB_nI hb (by decide)
  have h2 : inB (nI o) 64 = true := inB_nI ho (by decide)
  have h3 : inB (nI b * 64 + nI o) 1024 = true := by rw [ix_nI]; exact inB_nI (by omega) (by decide)
  cases hs : (spd f).1 with
  | true =>
    simp only [e7, s7_0, s7_1, s7_4, s7_7, s7_8, s7_11, s7_14, s7_14n, s7_15, s7_18, s7_21, s7_22, s7_23, s7_23n, s7_24, s7_27, s7_28, s7_30, s7_31, s7_32, s7_33, s7_34, s7_37, s7_38, s7_39, s7_40, Option.bind_some, Option.bind_none, Option.toList_some, Option.toList_none, List.nil_append, List.cons_append, ↓reduceIte, reduceCtorEq, cl1_i, cl1_r, cl1_n, cl1_0, cl1_J, okS_0, okS_1, okS_2, okS_3, okS_4, bB_0, bB_and, z_0, z_1, z_10, bB_t, bB_f, Bool.true_eq_false, Bool.false_eq_true, gT0, gT1, gT2, gT3, gT4, gT5, gT6, gF0, gF1, gF2, gF3, gF4, gS0, gS1, gC0, gC1, iT, iF, iS, iC, sT6_0, sT6_1, sF2, sF3, sF4_0, sF4_1, sS1, sC1, c11, c12, h1, h2, c10, hs, t3 h3]
    rw [ix_nI, nI_clamp (by omega)]
    simp only [prg, hs]
    rfl
  | false =>
    simp only [e7, s7_0, s7_1, s7_4, s7_7, s7_8, s7_11, s7_14, s7_14n, s7_15, s7_18, s7_21, s7_22, s7_23, s7_23n, s7_24, s7_27, s7_28, s7_30, s7_31, s7_32, s7_33, s7_34, s7_37, s7_38, s7_39, s7_40, Option.bind_some, Option.bind_none, Option.toList_some, Option.toList_none, List.nil_append, List.cons_append, ↓reduceIte, reduceCtorEq, cl1_i, cl1_r, cl1_n, cl1_0, cl1_J, okS_0, okS_1, okS_2, okS_3, okS_4, bB_0, bB_and, z_0, z_1, z_10, bB_t, bB_f, Bool.true_eq_false, Bool.false_eq_true, gT0, gT1, gT2, gT3, gT4, gT5, gT6, gF0, gF1, gF2, gF3, gF4, gS0, gS1, gC0, gC1, iT, iF, iS, iC, sT6_0, sT6_1, sF2, sF3, sF4_0, sF4_1, sS1, sC1, c11, c12, h1, h2, c10, hs]
    simp only [prg, hs]
    rfl
theorem c8_loop {b : Nat} (hb : b < 16) {g : FB} (cl : Nat → Int32) : ∀ (d i : Nat), i + d = 64 → Run 8 18 [some (.ref 2), some (.int (nI b)), some (.int (nI i))] [] (hp sc (fB (ersC cl b i, g.2)) s c th be qu mo li mm) = some (some (.int 1), (hp sc (fB (ersC cl b 64, upd g.2.1 b (g.2.1 b + 1), g.2.2)) s c th be qu mo li mm)) := by
  intro d
  induction d with
  | zero =>
    intro i h1
    obtain rfl : i = 64 := by omega
    have h3 : ¬ nI 64 < 64 := by decide
    have h5 : inB (nI b) 16 = true := inB_nI hb (by decide)
    simp only [s8_18, s8_19, s8_21, s8_44, s8_44n, s8_45, s8_48, s8_49, s8_50, s8_51, s8_52, s8_53, s8_54, s8_55, Option.bind_some, Option.bind_none, Option.toList_some, Option.toList_none, List.nil_append, List.cons_append, ↓reduceIte, reduceCtorEq, cl1_i, cl1_r, cl1_n, cl1_0, cl1_J, okS_0, okS_1, okS_2, okS_3, okS_4, bB_0, bB_and, z_0, z_1, z_10, bB_t, bB_f, Bool.true_eq_false, Bool.false_eq_true, gT0, gT1, gT2, gT3, gT4, gT5, gT6, gF0, gF1, gF2, gF3, gF4, gS0, gS1, gC0, gC1, iT, iF, iS, iC, sT6_0, sT6_1, sF2, sF3, sF4_0, sF4_1, sS1, sC1, h3, a4 h5, t4 h5, nI_clamp (show b < 2 ^ 31 by omega)]
    rfl
  | succ d ih =>
    intro i h1
    have h3 : nI i < 64 := nI_lit (k := 64) (by omega) (by decide)
    have h4 : inB (nI b * 64 + nI i) 1024 = true := by rw [ix_nI]; exact inB_nI (by omega) (by decide)
    simp only [s8_18, s8_19, s8_21, Option.bind_some, Option.bind_none, Option.toList_some, Option.toList_none, List.nil_append, List.cons_append, ↓reduceIte, reduceCtorEq, cl1_i, cl1_r, cl1_n, cl1_0, cl1_J, okS_0, okS_1, okS_2, okS_3, okS_4, bB_0, bB_and, z_0, z_1, z_10, bB_t, bB_f, Bool.true_eq_false, Bool.false_eq_true, gT0, gT1, gT2, gT3, gT4, gT5, gT6, gF0, gF1, gF2, gF3, gF4, gS0, gS1, gC0, gC1, iT, iF, iS, iC, sT6_0, sT6_1, sF2, sF3, sF4_0, sF4_1, sS1, sC1, h3]
    simp only [s8_24, s8_24n, s8_25, s8_28, s8_29, s8_31, s8_32, s8_33, s8_34, s8_37, s8_38, s8_41, Option.bind_some, Option.bind_none, Option.toList_some, Option.toList_none, List.nil_append, List.cons_append, ↓reduceIte, reduceCtorEq, cl1_i, cl1_r, cl1_n, cl1_0, cl1_J, okS_0, okS_1, okS_2, okS_3, okS_4, bB_0, bB_and, z_0, z_1, z_10, bB_t, bB_f, Bool.true_eq_false, Bool.false_eq_true, gT0, gT1, gT2, gT3, gT4, gT5, gT6, gF0, gF1, gF2, gF3, gF4, gS0, gS1, gC0, gC1, iT, iF, iS, iC, sT6_0, sT6_1, sF2, sF3, sF4_0, sF4_1, sS1, sC1, t3 h4]
    rw [← ih (i + 1) (by omega), ix_nI, nI_clamp (by omega)]
    simp only [fB_0, ersC_succ, nI_1]
    rfl
theorem c8 {b : Nat} (hb : b < 16) : RunM 8 [.ref 2, .int (nI b)] (hp sc (fB f) s c th be qu mo li mm) = some (some (.int (bB (ers f b).1)), (hp sc (fB (ers f b).2) s c th be qu mo li mm)) := by
  have h1 : inB (nI b) 16 = true := inB_nI hb (by decide)
  cases hs : (spd f).1 with
  | true =>
    simp only [e8, s8_0, s8_1, s8_4, s8_7, s8_7n, s8_8, s8_11, s8_14, s8_15, s8_16, s8_17, Option.bind_some, Option.bind_none, Option.toList_some, Option.toList_none, List.nil_append, List.cons_append, ↓reduceIte, reduceCtorEq, cl1_i, cl1_r, cl1_n, cl1_0, cl1_J, okS_0, okS_1, okS_2, okS_3, okS_4, bB_0, bB_and, z_0, z_1, z_10, bB_t, bB_f, Bool.true_eq_false, Bool.false_eq_true, gT0, gT1, gT2, gT3, gT4, gT5, gT6, gF0, gF1, gF2, gF3, gF4, gS0, gS1, gC0, gC1, iT, iF, iS, iC, sT6_0, sT6_1, sF2, sF3, sF4_0, sF4_1, sS1, sC1, c11, h1, c10, hs]
    have := c8_loop (sc := sc) (s := s) (c := c) (th := th) (be := be) (qu := qu) (mo := mo) (li := li) (mm := mm) hb (g := (spd f).2) (spd f).2.1 64 0 (by omega)
    rw [ersC_0, nI_0] at this
    simp only [ers, hs]
    exact this
  | false =>
    simp only [e8, s8_0, s8_1, s8_4, s8_7, s8_7n, s8_8, s8_11, s8_14, s8_15, Option.bind_some, Option.bind_none, Option.toList_some, Option.toList_none, List.nil_append, List.cons_append, ↓reduceIte, reduceCtorEq, cl1_i, cl1_r, cl1_n, cl1_0, cl1_J, okS_0, okS_1, okS_2, okS_3, okS_4, bB_0, bB_and, z_0, z_1, z_10, bB_t, bB_f, Bool.true_eq_false, Bool.false_eq_true, gT0, gT1, gT2, gT3, gT4, gT5, gT6, gF0, gF1, gF2, gF3, gF4, gS0, gS1, gC0, gC1, iT, iF, iS, iC, sT6_0, sT6_1, sF2, sF3, sF4_0, sF4_1, sS1, sC1, c11, h1, c10, hs]
    simp only [ers, hs]
    rfl
theorem c9 (hB : BOk f) {b e : Nat} (hb : b < 16) (he : e < 100000) : RunM 9 [.ref 2, .int (nI b), .int (nI e)] (hp sc (fB f) s c th be qu mo li mm) = some (some (.int (oI (nx f b e))), (hp sc (fB f) s c th be qu mo li mm)) := by
  by_cases h1 : e < 64
  · have hg := (hB (b * 64 + e) (by omega)).2
    have e1 : nI e + 1 + nI (gB f (b * 64 + e)) = nI (e + 1 + gB f (b * 64 + e)) := by rw [nI_1, nI_add]
    simp only [e9, s9_0, s9_0n, s9_1, s9_2, s9_3, s9_6, s9_7, s9_8, s9_9, s9_12, s9_13, s9_14, s9_15, s9_16, s9_17, s9_18, s9_19, s9_21, s9_21n, s9_22, s9_23, s9_25, Option.bind_some, Option.bind_none, Option.toList_some, Option.toList_none, List.nil_append, List.cons_append, ↓reduceIte, reduceCtorEq, cl1_i, cl1_r, cl1_n, cl1_0, cl1_J, okS_0, okS_1, okS_2, okS_3, okS_4, bB_0, bB_and, z_0, z_1, z_10, bB_t, bB_f, Bool.true_eq_false, Bool.false_eq_true, gT0, gT1, gT2, gT3, gT4, gT5, gT6, gF0, gF1, gF2, gF3, gF4, gS0, gS1, gC0, gC1, iT, iF, iS, iC, sT6_0, sT6_1, sF2, sF3, sF4_0, sF4_1, sS1, sC1, c6, pk_nI hB hb h1, m1_nI' (show gB f (b * 64 + e) < 2 ^ 31 by omega), e1]
    by_cases h2 : e + 1 + gB f (b * 64 + e) < 64
    · have hg2 := (hB (b * 64 + (e + 1 + gB f (b * 64 + e))) (by omega)).2
      rw [pk_nI hB hb h2]
      by_cases h3 : gB f (b * 64 + (e + 1 + gB f (b * 64 + e))) = 0
      · simp only [h3, nI_0, s9_28, s9_31, s9_33, s9_34, s9_35, s9_38, s9_39, Option.bind_some, Option.bind_none, Option.toList_some, Option.toList_none, List.nil_append, List.cons_append, ↓reduceIte, reduceCtorEq, cl1_i, cl1_r, cl1_n, cl1_0, cl1_J, okS_0, okS_1, okS_2, okS_3, okS_4, bB_0, bB_and, z_0, z_1, z_10, bB_t, bB_f, Bool.true_eq_false, Bool.false_eq_true, gT0, gT1, gT2, gT3, gT4, gT5, gT6, gF0, gF1, gF2, gF3, gF4, gS0, gS1, gC0, gC1, iT, iF, iS, iC, sT6_0, sT6_1, sF2, sF3, sF4_0, sF4_1, sS1, sC1, nI_1]
        rw [nx, if_pos ⟨h1, h2, h3⟩]
        rfl
      · simp only [nI_ne0 (Nat.pos_of_ne_zero h3) (by omega), s9_28, s9_31, s9_33, s9_34, s9_35, s9_38, s9_39, Option.bind_some, Option.bind_none, Option.toList_some, Option.toList_none, List.nil_append, List.cons_append, ↓reduceIte, reduceCtorEq, cl1_i, cl1_r, cl1_n, cl1_0, cl1_J, okS_0, okS_1, okS_2, okS_3, okS_4, bB_0, bB_and, z_0, z_1, z_10, bB_t, bB_f, Bool.true_eq_false, Bool.false_eq_true, gT0, gT1, gT2, gT3, gT4, gT5, gT6, gF0, gF1, gF2, gF3, gF4, gS0, gS1, gC0, gC1, iT, iF, iS, iC, sT6_0, sT6_1, sF2, sF3, sF4_0, sF4_1, sS1, sC1]
        rw [nx, if_neg (fun q => h3 q.2.2)]
        rfl
    · rw [pk_out (by omega) (by omega)]
      simp only [s9_28, s9_31, s9_33, s9_34, s9_35, s9_38, s9_39, Option.bind_some, Option.bind_none, Option.toList_some, Option.toList_none, List.nil_append, List.cons_append, ↓reduceIte, reduceCtorEq, cl1_i, cl1_r, cl1_n, cl1_0, cl1_J, okS_0, okS_1, okS_2, okS_3, okS_4, bB_0, bB_and, z_0, z_1, z_10, bB_t, bB_f, Bool.true_eq_false, Bool.false_eq_true, gT0, gT1, gT2, gT3, gT4, gT5, gT6, gF0, gF1, gF2, gF3, gF4, gS0, gS1, gC0, gC1, iT, iF, iS, iC, sT6_0, sT6_1, sF2, sF3, sF4_0, sF4_1, sS1, sC1, show ((-1 : Int32) = 0) = False by decide]
      rw [nx, if_neg (fun q => h2 q.2.1)]
      rfl
  · simp only [e9, s9_0, s9_0n, s9_1, s9_2, s9_3, s9_6, s9_7, s9_8, s9_9, s9_12, s9_13, Option.bind_some, Option.bind_none, Option.toList_some, Option.toList_none, List.nil_append, List.cons_append, ↓reduceIte, reduceCtorEq, cl1_i, cl1_r, cl1_n, cl1_0, cl1_J, okS_0, okS_1, okS_2, okS_3, okS_4, bB_0, bB_and, z_0, z_1, z_10, bB_t, bB_f, Bool.true_eq_false, Bool.false_eq_true, gT0, gT1, gT2, gT3, gT4, gT5, gT6, gF0, gF1, gF2, gF3, gF4, gS0, gS1, gC0, gC1, iT, iF, iS, iC, sT6_0, sT6_1, sF2, sF3, sF4_0, sF4_1, sS1, sC1, c6, pk_out (b := nI b) (f := f) (show 64 ≤ e by omega) (by omega)]
    rw [nx, if_neg (fun q => h1 q.1)]
    rfl
theorem c9m {x : Int32} : RunM 9 [.ref 2, .int (-1), .int x] (hp sc (fB f) s c th be qu mo li mm) = some (some (.int (-1)), (hp sc (fB f) s c th be qu mo li mm)) := by
  simp only [e9, s9_0, s9_0n, s9_1, s9_2, s9_3, s9_6, s9_7, s9_8, s9_9, s9_12, s9_13, Option.bind_some, Option.bind_none, Option.toList_some, Option.toList_none, List.nil_append, List.cons_append, ↓reduceIte, reduceCtorEq, cl1_i, cl1_r, cl1_n, cl1_0, cl1_J, okS_0, okS_1, okS_2, okS_3, okS_4, bB_0, bB_and, z_0, z_1, z_10, bB_t, bB_f, Bool.true_eq_false, Bool.false_eq_true, gT0, gT1, gT2, gT3, gT4, gT5, gT6, gF0, gF1, gF2, gF3, gF4, gS0, gS1, gC0, gC1, iT, iF, iS, iC, sT6_0, sT6_1, sF2, sF3, sF4_0, sF4_1, sS1, sC1, c6, pk_neg]
end FW
theorem nx_lt {f : FB} {b e n : Nat} (h : nx f b e = some n) : e + 2 ≤ n ∧ n ≤ 64 := by
  unfold nx at h
  split at h
  · cases h
    omega
  · cases h
