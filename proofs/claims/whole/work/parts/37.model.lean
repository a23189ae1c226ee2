/-! ===== The reference: its flash is the same as the class's ===== -/
abbrev RgS : Type := ((Nat → Int32) × (Nat → Int32) × (Nat → Int32) × (Nat → Int64)) × (Int32 × Int32 × Int32 × Int32)
def mS (f : FB) (mt : Bool) (jl : Int32) (R : RgS) (O A : OpS) : MoS := (f.1, f.2.1, (bB f.2.2.2.2, bB mt, bB (!decide (f.2.2.2.1 = -1)), (if f.2.2.2.1 = -1 then jl else f.2.2.2.1), f.2.2.1), R.1, R.2, O, A)
section MSR
variable {f : FB} {mt : Bool} {jl : Int32} {R : RgS} {O A : OpS}
theorem mS_0 : (mS f mt jl R O A).1 = f.1 := rfl
theorem mS_1 : (mS f mt jl R O A).2.1 = f.2.1 := rfl
theorem mS_2 : (mS f mt jl R O A).2.2.1.1 = bB f.2.2.2.2 := rfl
theorem mS_3 : (mS f mt jl R O A).2.2.1.2.1 = bB mt := rfl
theorem mS_4 : (mS f mt jl R O A).2.2.1.2.2.1 = bB (!decide (f.2.2.2.1 = -1)) := rfl
theorem mS_5 : (mS f mt jl R O A).2.2.1.2.2.2.1 = if f.2.2.2.1 = -1 then jl else f.2.2.2.1 := rfl
theorem mS_6 : (mS f mt jl R O A).2.2.1.2.2.2.2 = f.2.2.1 := rfl
theorem mS_7 : (mS f mt jl R O A).2.2.2.1.1 = R.1.1 := rfl
theorem mS_8 : (mS f mt jl R O A).2.2.2.1.2.1 = R.1.2.1 := rfl
theorem mS_9 : (mS f mt jl R O A).2.2.2.1.2.2.1 = R.1.2.2.1 := rfl
theorem mS_10 : (mS f mt jl R O A).2.2.2.1.2.2.2 = R.1.2.2.2 := rfl
theorem mS_11 : (mS f mt jl R O A).2.2.2.2.1.1 = R.2.1 := rfl
theorem mS_12 : (mS f mt jl R O A).2.2.2.2.1.2.1 = R.2.2.1 := rfl
theorem mS_13 : (mS f mt jl R O A).2.2.2.2.1.2.2.1 = R.2.2.2.1 := rfl
theorem mS_14 : (mS f mt jl R O A).2.2.2.2.1.2.2.2 = R.2.2.2.2 := rfl
theorem mS_15 : (mS f mt jl R O A).2.2.2.2.2.1.1 = O.1 := rfl
theorem mS_16 : (mS f mt jl R O A).2.2.2.2.2.1.2 = O.2 := rfl
theorem mS_17 : (mS f mt jl R O A).2.2.2.2.2.2.1 = A.1 := rfl
theorem mS_18 : (mS f mt jl R O A).2.2.2.2.2.2.2 = A.2 := rfl
end MSR
/-- a cut is set to a number that is not below 0, or not set -/
def LfO (f : FB) : Prop := f.2.2.2.1 = -1 ∨ ¬ f.2.2.2.1 < 0
theorem LfO_spd {f : FB} (h : LfO f) : LfO (spd f).2 := by
  unfold spd
  split
  · exact Or.inl rfl
  · rename_i h0
    split
    · exact h
    · rcases h with h | h
      · refine Or.inl ?_
        show (if 0 < f.2.2.2.1 then f.2.2.2.1 - 1 else f.2.2.2.1) = -1
        rw [h]
        decide
      · refine Or.inr ?_
        show ¬ (if 0 < f.2.2.2.1 then f.2.2.2.1 - 1 else f.2.2.2.1) < 0
        obtain ⟨k, hk, hk2⟩ := nI_of h
        rw [hk2] at h0 ⊢
        have hk0 : 0 < k := by
          rcases Nat.eq_zero_or_pos k with e | e
          · subst e; exact absurd nI_0 h0
          · exact e
        obtain ⟨n, rfl⟩ : ∃ n, k = n + 1 := ⟨k - 1, by omega⟩
        rw [if_pos (show (0 : Int32) < nI (n + 1) from by have := nI_lt (a := 0) hk0 hk; rwa [nI_0] at this), nI_pred]
        exact nI_pos (by omega)
theorem LfO_prg {f : FB} (h : LfO f) (a : Nat) (v : Int32) : LfO (prg f a v).2 := by
  have := LfO_spd h
  unfold prg
  split <;> exact this
theorem LfO_ers {f : FB} (h : LfO f) (b : Nat) : LfO (ers f b).2 := by
  have := LfO_spd h
  unfold ers
  split <;> exact this
theorem LfO_wr : ∀ (vs : List Int32) {f : FB} (_ : LfO f) (a : Nat), LfO (wr f a vs).2 := by
  intro vs
  induction vs with
  | nil => intro f h a; exact h
  | cons v vs ih =>
    intro f h a
    have := LfO_prg h a v
    unfold wr
    split
    · exact ih this _
    · exact this
theorem LfO_anW {f : FB} (h : LfO f) (b : Nat) (rev : Int32) (bs : List Int32) : LfO (anW f b rev bs).2 := by
  unfold anW
  split
  · exact LfO_wr _ (LfO_ers h b) _
  · exact LfO_ers h b
theorem LfO_anF {f : FB} (h : LfO f) (q : Nat) (ob : Option Nat) (bs : List Int32) : LfO (anF f q ob bs).2 := by
  cases ob <;> exact LfO_anW h _ _ _
theorem LfO_cmF {f : FB} (h : LfO f) (b : Nat) (bs : List Int32) (st : Lst) : LfO (cmF f b bs st).2 := by
  unfold cmF
  split
  · exact LfO_wr _ h _
  · exact LfO_anF h _ _ _
def jA (ok : Bool) (jl : Int32) : Int32 := if ok = true then jl else 0
section MOD
variable {sc : AC} {F : FlS} {s c : OpS} {th be qu : Nat → Int32} {mo : Int32} {li : Nat → LiS} {f : FB} {mt : Bool} {jl : Int32} {R : RgS} {O A : OpS}
theorem c92 (hd : f.2.2.2.2 = false) (hl : LfO f) : RunM 92 [.ref 61] (hp sc F s c th be qu mo li (hM (mS f mt jl R O A))) = some (some (.int (bB (spd f).1)), (hp sc F s c th be qu mo li (hM (mS ((spd f).2) ((spd f).1 && mt) (jA (spd f).1 jl) R O A)))) := by
  obtain ⟨cl, er, dn, lf, dk⟩ := f
  dsimp only at hd
  subst hd
  rcases hl with hl | hl
  · dsimp only at hl
    subst hl
    simp only [e92, s92_0, s92_0n, s92_1, s92_4, s92_7, s92_8, s92_9, s92_9n, s92_10, s92_13, s92_16, s92_16n, s92_17, s92_20, s92_23, s92_23n, s92_24, s92_25, s92_28, s92_28n, s92_29, s92_30, s92_33, s92_33n, s92_34, s92_35, s92_38, s92_39, s92_40, s92_40n, s92_41, s92_44, s92_47, s92_47n, s92_48, s92_48n, s92_49, s92_52, s92_53, s92_54, s92_57, s92_57n, s92_58, s92_58n, s92_59, s92_62, s92_63, s92_64, s92_67, s92_68, Option.bind_some, Option.bind_none, Option.toList_some, Option.toList_none, List.nil_append, List.cons_append, ↓reduceIte, reduceCtorEq, cl1_i, cl1_r, cl1_n, cl1_0, cl1_J, okS_0, okS_1, okS_2, okS_3, okS_4, bB_0, bB_and, z_0, z_1, z_10, bB_t, bB_f, Bool.true_eq_false, Bool.false_eq_true, gT0, gT1, gT2, gT3, gT4, gT5, gT6, gF0, gF1, gF2, gF3, gF4, gS0, gS1, gC0, gC1, iT, iF, iS, iC, sT6_0, sT6_1, sF2, sF3, sF4_0, sF4_1, sS1, sC1, gM0, gM1, gM2, gM3, gM4, gM5, gM6, gM7, gM8, gM9, gM10, gM11, gM12, gM13, gM14, gM15, gM16, gM17, gM18, iM, sM5, sM6, sM11, sM12, sM13, sM14, sM16, sM18, sM2_0, sM2_1, sM3_0, sM3_1, sM4_0, sM4_1, mS_0, mS_1, mS_2, mS_3, mS_4, mS_5, mS_6, mS_7, mS_8, mS_9, mS_10, mS_11, mS_12, mS_13, mS_14, mS_15, mS_16, mS_17, mS_18, decide_true, decide_false, Bool.not_true, Bool.not_false, decide_true, Bool.not_true]
    rfl
  · dsimp only at hl
    have hm : ¬ lf = -1 := fun e => by rw [e] at hl; exact hl (by decide)
    by_cases h0 : lf = 0
    · subst h0
      simp only [e92, s92_0, s92_0n, s92_1, s92_4, s92_7, s92_8, s92_9, s92_9n, s92_10, s92_13, s92_16, s92_16n, s92_17, s92_20, s92_23, s92_23n, s92_24, s92_25, s92_28, s92_28n, s92_29, s92_30, s92_33, s92_33n, s92_34, s92_35, s92_38, s92_39, s92_40, s92_40n, s92_41, s92_44, s92_47, s92_47n, s92_48, s92_48n, s92_49, s92_52, s92_53, s92_54, s92_57, s92_57n, s92_58, s92_58n, s92_59, s92_62, s92_63, s92_64, s92_67, s92_68, Option.bind_some, Option.bind_none, Option.toList_some, Option.toList_none, List.nil_append, List.cons_append, ↓reduceIte, reduceCtorEq, cl1_i, cl1_r, cl1_n, cl1_0, cl1_J, okS_0, okS_1, okS_2, okS_3, okS_4, bB_0, bB_and, z_0, z_1, z_10, bB_t, bB_f, Bool.true_eq_false, Bool.false_eq_true, gT0, gT1, gT2, gT3, gT4, gT5, gT6, gF0, gF1, gF2, gF3, gF4, gS0, gS1, gC0, gC1, iT, iF, iS, iC, sT6_0, sT6_1, sF2, sF3, sF4_0, sF4_1, sS1, sC1, gM0, gM1, gM2, gM3, gM4, gM5, gM6, gM7, gM8, gM9, gM10, gM11, gM12, gM13, gM14, gM15, gM16, gM17, gM18, iM, sM5, sM6, sM11, sM12, sM13, sM14, sM16, sM18, sM2_0, sM2_1, sM3_0, sM3_1, sM4_0, sM4_1, mS_0, mS_1, mS_2, mS_3, mS_4, mS_5, mS_6, mS_7, mS_8, mS_9, mS_10, mS_11, mS_12, mS_13, mS_14, mS_15, mS_16, mS_17, mS_18, decide_true, decide_false, Bool.not_true, Bool.not_false, decide_eq_false hm, Bool.not_false, hm]
      rfl
    · have hp : 0 < lf := by
        obtain ⟨k, hk, rfl⟩ := nI_of hl
        have : 0 < k := by
          rcases Nat.eq_zero_or_pos k with e | e
          · subst e; exact absurd nI_0 h0
          · exact e
        have h9 := nI_lt (a := 0) this hk
        rwa [nI_0] at h9
      have hm2 : ¬ lf - 1 = -1 := fun e => h0 (by
        have := congrArg (· + 1) e
        simpa using this)
      simp only [e92, s92_0, s92_0n, s92_1, s92_4, s92_7, s92_8, s92_9, s92_9n, s92_10, s92_13, s92_16, s92_16n, s92_17, s92_20, s92_23, s92_23n, s92_24, s92_25, s92_28, s92_28n, s92_29, s92_30, s92_33, s92_33n, s92_34, s92_35, s92_38, s92_39, s92_40, s92_40n, s92_41, s92_44, s92_47, s92_47n, s92_48, s92_48n, s92_49, s92_52, s92_53, s92_54, s92_57, s92_57n, s92_58, s92_58n, s92_59, s92_62, s92_63, s92_64, s92_67, s92_68, Option.bind_some, Option.bind_none, Option.toList_some, Option.toList_none, List.nil_append, List.cons_append, ↓reduceIte, reduceCtorEq, cl1_i, cl1_r, cl1_n, cl1_0, cl1_J, okS_0, okS_1, okS_2, okS_3, okS_4, bB_0, bB_and, z_0, z_1, z_10, bB_t, bB_f, Bool.true_eq_false, Bool.false_eq_true, gT0, gT1, gT2, gT3, gT4, gT5, gT6, gF0, gF1, gF2, gF3, gF4, gS0, gS1, gC0, gC1, iT, iF, iS, iC, sT6_0, sT6_1, sF2, sF3, sF4_0, sF4_1, sS1, sC1, gM0, gM1, gM2, gM3, gM4, gM5, gM6, gM7, gM8, gM9, gM10, gM11, gM12, gM13, gM14, gM15, gM16, gM17, gM18, iM, sM5, sM6, sM11, sM12, sM13, sM14, sM16, sM18, sM2_0, sM2_1, sM3_0, sM3_1, sM4_0, sM4_1, mS_0, mS_1, mS_2, mS_3, mS_4, mS_5, mS_6, mS_7, mS_8, mS_9, mS_10, mS_11, mS_12, mS_13, mS_14, mS_15, mS_16, mS_17, mS_18, decide_true, decide_false, Bool.not_true, Bool.not_false, decide_eq_false hm, Bool.not_false, hm, h0]
      simp only [spd, h0, hp, mS, hm2, hm, jA, Option.bind_some, Option.bind_none, Option.toList_some, Option.toList_none, List.nil_append, List.cons_append, ↓reduceIte, reduceCtorEq, cl1_i, cl1_r, cl1_n, cl1_0, cl1_J, okS_0, okS_1, okS_2, okS_3, okS_4, bB_0, bB_and, z_0, z_1, z_10, bB_t, bB_f, Bool.true_eq_false, Bool.false_eq_true, gT0, gT1, gT2, gT3, gT4, gT5, gT6, gF0, gF1, gF2, gF3, gF4, gS0, gS1, gC0, gC1, iT, iF, iS, iC, sT6_0, sT6_1, sF2, sF3, sF4_0, sF4_1, sS1, sC1, Bool.true_and, decide_false, Bool.not_false]
theorem c93 (hd : f.2.2.2.2 = false) (hl : LfO f) {a : Nat} {v : Int32} (ha : a < 1024) : RunM 93 [.ref 61, .int (nI a), .int v] (hp sc F s c th be qu mo li (hM (mS f mt jl R O A))) = some (some (.int (bB (prg f a v).1)), (hp sc F s c th be qu mo li (hM (mS ((prg f a v).2) ((prg f a v).1 && mt) (jA (prg f a v).1 jl) R O A)))) := by
  have hi : inB (nI a) 1024 = true := inB_nI ha (by decide)
  cases h : (spd f).1 with
  | true =>
    simp only [e93, s93_0, s93_0n, s93_1, s93_4, s93_7, s93_8, s93_9, s93_9n, s93_10, s93_13, s93_14, s93_15, s93_18, s93_19, s93_20, s93_21, Option.bind_some, Option.bind_none, Option.toList_some, Option.toList_none, List.nil_append, List.cons_append, ↓reduceIte, reduceCtorEq, cl1_i, cl1_r, cl1_n, cl1_0, cl1_J, okS_0, okS_1, okS_2, okS_3, okS_4, bB_0, bB_and, z_0, z_1, z_10, bB_t, bB_f, Bool.true_eq_false, Bool.false_eq_true, gT0, gT1, gT2, gT3, gT4, gT5, gT6, gF0, gF1, gF2, gF3, gF4, gS0, gS1, gC0, gC1, iT, iF, iS, iC, sT6_0, sT6_1, sF2, sF3, sF4_0, sF4_1, sS1, sC1, gM0, gM1, gM2, gM3, gM4, gM5, gM6, gM7, gM8, gM9, gM10, gM11, gM12, gM13, gM14, gM15, gM16, gM17, gM18, iM, sM5, sM6, sM11, sM12, sM13, sM14, sM16, sM18, sM2_0, sM2_1, sM3_0, sM3_1, sM4_0, sM4_1, mS_0, mS_1, mS_2, mS_3, mS_4, mS_5, mS_6, mS_7, mS_8, mS_9, mS_10, mS_11, mS_12, mS_13, mS_14, mS_15, mS_16, mS_17, mS_18, decide_true, decide_false, Bool.not_true, Bool.not_false, c92 hd hl, h, t62 hi, nI_clamp (show a < 2 ^ 31 by omega)]
    simp only [prg, h, if_true]
    rfl
  | false =>
    simp only [e93, s93_0, s93_0n, s93_1, s93_4, s93_7, s93_8, s93_9, s93_9n, s93_10, s93_13, s93_14, s93_15, s93_18, s93_19, s93_20, s93_21, Option.bind_some, Option.bind_none, Option.toList_some, Option.toList_none, List.nil_append, List.cons_append, ↓reduceIte, reduceCtorEq, cl1_i, cl1_r, cl1_n, cl1_0, cl1_J, okS_0, okS_1, okS_2, okS_3, okS_4, bB_0, bB_and, z_0, z_1, z_10, bB_t, bB_f, Bool.true_eq_false, Bool.false_eq_true, gT0, gT1, gT2, gT3, gT4, gT5, gT6, gF0, gF1, gF2, gF3, gF4, gS0, gS1, gC0, gC1, iT, iF, iS, iC, sT6_0, sT6_1, sF2, sF3, sF4_0, sF4_1, sS1, sC1, gM0, gM1, gM2, gM3, gM4, gM5, gM6, gM7, gM8, gM9, gM10, gM11, gM12, gM13, gM14, gM15, gM16, gM17, gM18, iM, sM5, sM6, sM11, sM12, sM13, sM14, sM16, sM18, sM2_0, sM2_1, sM3_0, sM3_1, sM4_0, sM4_1, mS_0, mS_1, mS_2, mS_3, mS_4, mS_5, mS_6, mS_7, mS_8, mS_9, mS_10, mS_11, mS_12, mS_13, mS_14, mS_15, mS_16, mS_17, mS_18, decide_true, decide_false, Bool.not_true, Bool.not_false, c92 hd hl, h]
    simp only [prg, h]
    rfl
theorem c94_loop {b : Nat} (hb : b < 16) {g : FB} (cl : Nat → Int32) : ∀ (d i : Nat), i + d = 64 → Run 94 11 [some (.ref 61), some (.int (nI b)), some (.int (nI i))] [] (hp sc F s c th be qu mo li (hM (mS ((ersC cl b i, g.2)) mt jl R O A))) = some (some (.int 1), (hp sc F s c th be qu mo li (hM (mS ((ersC cl b 64, upd g.2.1 b (g.2.1 b + 1), g.2.2)) mt jl R O A)))) := by
  intro d
  induction d with
  | zero =>
    intro i h1
    obtain rfl : i = 64 := by omega
    have h3 : ¬ nI 64 < 64 := by decide
    have h5 : inB (nI b) 16 = true := inB_nI hb (by decide)
    simp only [s94_11, s94_12, s94_14, s94_37, s94_37n, s94_38, s94_41, s94_42, s94_42n, s94_43, s94_46, s94_47, s94_48, s94_49, s94_50, s94_51, s94_52, Option.bind_some, Option.bind_none, Option.toList_some, Option.toList_none, List.nil_append, List.cons_append, ↓reduceIte, reduceCtorEq, cl1_i, cl1_r, cl1_n, cl1_0, cl1_J, okS_0, okS_1, okS_2, okS_3, okS_4, bB_0, bB_and, z_0, z_1, z_10, bB_t, bB_f, Bool.true_eq_false, Bool.false_eq_true, gT0, gT1, gT2, gT3, gT4, gT5, gT6, gF0, gF1, gF2, gF3, gF4, gS0, gS1, gC0, gC1, iT, iF, iS, iC, sT6_0, sT6_1, sF2, sF3, sF4_0, sF4_1, sS1, sC1, gM0, gM1, gM2, gM3, gM4, gM5, gM6, gM7, gM8, gM9, gM10, gM11, gM12, gM13, gM14, gM15, gM16, gM17, gM18, iM, sM5, sM6, sM11, sM12, sM13, sM14, sM16, sM18, sM2_0, sM2_1, sM3_0, sM3_1, sM4_0, sM4_1, mS_0, mS_1, mS_2, mS_3, mS_4, mS_5, mS_6, mS_7, mS_8, mS_9, mS_10, mS_11, mS_12, mS_13, mS_14, mS_15, mS_16, mS_17, mS_18, decide_true, decide_false, Bool.not_true, Bool.not_false, h3, a63 h5, t63 h5, nI_clamp (show b < 2 ^ 31 by omega)]
    rfl
  | succ d ih =>
    intro i h1
    have h3 : nI i < 64 := nI_lit (k := 64) (by omega) (by decide)
    have e1 : 64 * nI b + nI i = nI (b * 64 + i) := by
      have : 64 * nI b = nI (64 * b) := pk_mul 64 b
      rw [this, nI_add, Nat.mul_comm]
    have h4 : inB (nI (b * 64 + i)) 1024 = true := inB_nI (by omega) (by decide)
    simp only [s94_11, s94_12, s94_14, Option.bind_some, Option.bind_none, Option.toList_some, Option.toList_none, List.nil_append, List.cons_append, ↓reduceIte, reduceCtorEq, cl1_i, cl1_r, cl1_n, cl1_0, cl1_J, okS_0, okS_1, okS_2, okS_3, okS_4, bB_0, bB_and, z_0, z_1, z_10, bB_t, bB_f, Bool.true_eq_false, Bool.false_eq_true, gT0, gT1, gT2, gT3, gT4, gT5, gT6, gF0, gF1, gF2, gF3, gF4, gS0, gS1, gC0, gC1, iT, iF, iS, iC, sT6_0, sT6_1, sF2, sF3, sF4_0, sF4_1, sS1, sC1, h3]
    simp only [s94_17, s94_17n, s94_18, s94_21, s94_23, s94_24, s94_25, s94_26, s94_27, s94_30, s94_31, s94_34, Option.bind_some, Option.bind_none, Option.toList_some, Option.toList_none, List.nil_append, List.cons_append, ↓reduceIte, reduceCtorEq, cl1_i, cl1_r, cl1_n, cl1_0, cl1_J, okS_0, okS_1, okS_2, okS_3, okS_4, bB_0, bB_and, z_0, z_1, z_10, bB_t, bB_f, Bool.true_eq_false, Bool.false_eq_true, gT0, gT1, gT2, gT3, gT4, gT5, gT6, gF0, gF1, gF2, gF3, gF4, gS0, gS1, gC0, gC1, iT, iF, iS, iC, sT6_0, sT6_1, sF2, sF3, sF4_0, sF4_1, sS1, sC1, gM0, gM1, gM2, gM3, gM4, gM5, gM6, gM7, gM8, gM9, gM10, gM11, gM12, gM13, gM14, gM15, gM16, gM17, gM18, iM, sM5, sM6, sM11, sM12, sM13, sM14, sM16, sM18, sM2_0, sM2_1, sM3_0, sM3_1, sM4_0, sM4_1, mS_0, mS_1, mS_2, mS_3, mS_4, mS_5, mS_6, mS_7, mS_8, mS_9, mS_10, mS_11, mS_12, mS_13, mS_14, mS_15, mS_16, mS_17, mS_18, decide_true, decide_false, Bool.not_true, Bool.not_false, e1, t62 h4, nI_clamp (show b * 64 + i < 2 ^ 31 by omega), ersC_succ, nI_1]
    exact ih (i + 1) (by omega)
theorem c94 (hd : f.2.2.2.2 = false) (hl : LfO f) {b : Nat} (hb : b < 16) : RunM 94 [.ref 61, .int (nI b)] (hp sc F s c th be qu mo li (hM (mS f mt jl R O A))) = some (some (.int (bB (ers f b).1)), (hp sc F s c th be qu mo li (hM (mS ((ers f b).2) ((ers f b).1 && mt) (jA (ers f b).1 jl) R O A)))) := by
  cases h : (spd f).1 with
  | true =>
    simp only [e94, s94_0, s94_0n, s94_1, s94_4, s94_7, s94_8, s94_9, s94_10, Option.bind_some, Option.bind_none, Option.toList_some, Option.toList_none, List.nil_append, List.cons_append, ↓reduceIte, reduceCtorEq, cl1_i, cl1_r, cl1_n, cl1_0, cl1_J, okS_0, okS_1, okS_2, okS_3, okS_4, bB_0, bB_and, z_0, z_1, z_10, bB_t, bB_f, Bool.true_eq_false, Bool.false_eq_true, gT0, gT1, gT2, gT3, gT4, gT5, gT6, gF0, gF1, gF2, gF3, gF4, gS0, gS1, gC0, gC1, iT, iF, iS, iC, sT6_0, sT6_1, sF2, sF3, sF4_0, sF4_1, sS1, sC1, gM0, gM1, gM2, gM3, gM4, gM5, gM6, gM7, gM8, gM9, gM10, gM11, gM12, gM13, gM14, gM15, gM16, gM17, gM18, iM, sM5, sM6, sM11, sM12, sM13, sM14, sM16, sM18, sM2_0, sM2_1, sM3_0, sM3_1, sM4_0, sM4_1, mS_0, mS_1, mS_2, mS_3, mS_4, mS_5, mS_6, mS_7, mS_8, mS_9, mS_10, mS_11, mS_12, mS_13, mS_14, mS_15, mS_16, mS_17, mS_18, decide_true, decide_false, Bool.not_true, Bool.not_false, c92 hd hl, h]
    have := c94_loop (sc := sc) (F := F) (s := s) (c := c) (th := th) (be := be) (qu := qu) (mo := mo) (li := li) (mt := mt) (jl := jl) (R := R) (O := O) (A := A) hb (g := (spd f).2) (spd f).2.1 64 0 (by omega)
    rw [ersC_0, nI_0] at this
    simp only [ers, h, if_true]
    exact this
  | false =>
    simp only [e94, s94_0, s94_0n, s94_1, s94_4, s94_7, s94_8, Option.bind_some, Option.bind_none, Option.toList_some, Option.toList_none, List.nil_append, List.cons_append, ↓reduceIte, reduceCtorEq, cl1_i, cl1_r, cl1_n, cl1_0, cl1_J, okS_0, okS_1, okS_2, okS_3, okS_4, bB_0, bB_and, z_0, z_1, z_10, bB_t, bB_f, Bool.true_eq_false, Bool.false_eq_true, gT0, gT1, gT2, gT3, gT4, gT5, gT6, gF0, gF1, gF2, gF3, gF4, gS0, gS1, gC0, gC1, iT, iF, iS, iC, sT6_0, sT6_1, sF2, sF3, sF4_0, sF4_1, sS1, sC1, gM0, gM1, gM2, gM3, gM4, gM5, gM6, gM7, gM8, gM9, gM10, gM11, gM12, gM13, gM14, gM15, gM16, gM17, gM18, iM, sM5, sM6, sM11, sM12, sM13, sM14, sM16, sM18, sM2_0, sM2_1, sM3_0, sM3_1, sM4_0, sM4_1, mS_0, mS_1, mS_2, mS_3, mS_4, mS_5, mS_6, mS_7, mS_8, mS_9, mS_10, mS_11, mS_12, mS_13, mS_14, mS_15, mS_16, mS_17, mS_18, decide_true, decide_false, Bool.not_true, Bool.not_false, c92 hd hl, h]
    simp only [ers, h]
    rfl
theorem ix2 {b o : Nat} : 64 * nI b + nI o = nI (b * 64 + o) := by
  have : 64 * nI b = nI (64 * b) := pk_mul 64 b
  rw [this, nI_add, Nat.mul_comm]
theorem c95 (hB : BOk f) {b : Nat} (hb : b < 16) : RunM 95 [.ref 61, .int (nI b)] (hp sc F s c th be qu mo li (hM (mS f mt jl R O A))) = some (some (.int (bB (nx f b 1).isSome)), (hp sc F s c th be qu mo li (hM (mS f mt jl R O A)))) := by
  have h1 := hB (b * 64 + 1) (by omega)
  have e0 : 64 * nI b + 1 = nI (b * 64 + 1) := ix2 (o := 1)
  have e1 : 2 + nI (gB f (b * 64 + 1)) = nI (2 + gB f (b * 64 + 1)) := nI_add 2 _
  simp only [e95, s95_0, s95_1, s95_1n, s95_2, s95_5, s95_7, s95_8, s95_9, s95_10, s95_11, s95_12, s95_13, s95_14, s95_15, s95_17, Option.bind_some, Option.bind_none, Option.toList_some, Option.toList_none, List.nil_append, List.cons_append, ↓reduceIte, reduceCtorEq, cl1_i, cl1_r, cl1_n, cl1_0, cl1_J, okS_0, okS_1, okS_2, okS_3, okS_4, bB_0, bB_and, z_0, z_1, z_10, bB_t, bB_f, Bool.true_eq_false, Bool.false_eq_true, gT0, gT1, gT2, gT3, gT4, gT5, gT6, gF0, gF1, gF2, gF3, gF4, gS0, gS1, gC0, gC1, iT, iF, iS, iC, sT6_0, sT6_1, sF2, sF3, sF4_0, sF4_1, sS1, sC1, gM0, gM1, gM2, gM3, gM4, gM5, gM6, gM7, gM8, gM9, gM10, gM11, gM12, gM13, gM14, gM15, gM16, gM17, gM18, iM, sM5, sM6, sM11, sM12, sM13, sM14, sM16, sM18, sM2_0, sM2_1, sM3_0, sM3_1, sM4_0, sM4_1, mS_0, mS_1, mS_2, mS_3, mS_4, mS_5, mS_6, mS_7, mS_8, mS_9, mS_10, mS_11, mS_12, mS_13, mS_14, mS_15, mS_16, mS_17, mS_18, decide_true, decide_false, Bool.not_true, Bool.not_false, e0, a62 (inB_nI (show b * 64 + 1 < 1024 by omega) (by decide)), nI_clamp (show b * 64 + 1 < 2 ^ 31 by omega), h1.1, e1]
  by_cases h2 : 2 + gB f (b * 64 + 1) < 64
  · have h3 : nI (2 + gB f (b * 64 + 1)) < 64 := nI_lit (k := 64) h2 (by decide)
    have h4 := hB (b * 64 + (2 + gB f (b * 64 + 1))) (by omega)
    by_cases h5 : gB f (b * 64 + (2 + gB f (b * 64 + 1))) = 0
    · have hn : nx f b 1 = some (1 + 1 + gB f (b * 64 + 1) + 1) := by
        unfold nx
        rw [show 1 + 1 + gB f (b * 64 + 1) = 2 + gB f (b * 64 + 1) by omega]
        exact if_pos ⟨by decide, h2, h5⟩
      rw [h5, nI_0] at h4
      simp only [s95_20, s95_20n, s95_21, s95_24, s95_26, s95_27, s95_28, s95_29, s95_30, s95_31, s95_34, s95_35, s95_38, s95_39, Option.bind_some, Option.bind_none, Option.toList_some, Option.toList_none, List.nil_append, List.cons_append, ↓reduceIte, reduceCtorEq, cl1_i, cl1_r, cl1_n, cl1_0, cl1_J, okS_0, okS_1, okS_2, okS_3, okS_4, bB_0, bB_and, z_0, z_1, z_10, bB_t, bB_f, Bool.true_eq_false, Bool.false_eq_true, gT0, gT1, gT2, gT3, gT4, gT5, gT6, gF0, gF1, gF2, gF3, gF4, gS0, gS1, gC0, gC1, iT, iF, iS, iC, sT6_0, sT6_1, sF2, sF3, sF4_0, sF4_1, sS1, sC1, gM0, gM1, gM2, gM3, gM4, gM5, gM6, gM7, gM8, gM9, gM10, gM11, gM12, gM13, gM14, gM15, gM16, gM17, gM18, iM, sM5, sM6, sM11, sM12, sM13, sM14, sM16, sM18, sM2_0, sM2_1, sM3_0, sM3_1, sM4_0, sM4_1, mS_0, mS_1, mS_2, mS_3, mS_4, mS_5, mS_6, mS_7, mS_8, mS_9, mS_10, mS_11, mS_12, mS_13, mS_14, mS_15, mS_16, mS_17, mS_18, decide_true, decide_false, Bool.not_true, Bool.not_false, h3, ix2, a62 (inB_nI (show b * 64 + (2 + gB f (b * 64 + 1)) < 1024 by omega) (by decide)), nI_clamp (show b * 64 + (2 + gB f (b * 64 + 1)) < 2 ^ 31 by omega), h4.1, hn]
      rfl
    · have hn : nx f b 1 = none := by
        unfold nx
        rw [show 1 + 1 + gB f (b * 64 + 1) = 2 + gB f (b * 64 + 1) by omega]
        exact if_neg (fun q => h5 q.2.2)
      simp only [s95_20, s95_20n, s95_21, s95_24, s95_26, s95_27, s95_28, s95_29, s95_30, s95_31, s95_34, s95_35, s95_38, s95_39, Option.bind_some, Option.bind_none, Option.toList_some, Option.toList_none, List.nil_append, List.cons_append, ↓reduceIte, reduceCtorEq, cl1_i, cl1_r, cl1_n, cl1_0, cl1_J, okS_0, okS_1, okS_2, okS_3, okS_4, bB_0, bB_and, z_0, z_1, z_10, bB_t, bB_f, Bool.true_eq_false, Bool.false_eq_true, gT0, gT1, gT2, gT3, gT4, gT5, gT6, gF0, gF1, gF2, gF3, gF4, gS0, gS1, gC0, gC1, iT, iF, iS, iC, sT6_0, sT6_1, sF2, sF3, sF4_0, sF4_1, sS1, sC1, gM0, gM1, gM2, gM3, gM4, gM5, gM6, gM7, gM8, gM9, gM10, gM11, gM12, gM13, gM14, gM15, gM16, gM17, gM18, iM, sM5, sM6, sM11, sM12, sM13, sM14, sM16, sM18, sM2_0, sM2_1, sM3_0, sM3_1, sM4_0, sM4_1, mS_0, mS_1, mS_2, mS_3, mS_4, mS_5, mS_6, mS_7, mS_8, mS_9, mS_10, mS_11, mS_12, mS_13, mS_14, mS_15, mS_16, mS_17, mS_18, decide_true, decide_false, Bool.not_true, Bool.not_false, h3, ix2, a62 (inB_nI (show b * 64 + (2 + gB f (b * 64 + 1)) < 1024 by omega) (by decide)), nI_clamp (show b * 64 + (2 + gB f (b * 64 + 1)) < 2 ^ 31 by omega), h4.1, nI_ne0 (Nat.pos_of_ne_zero h5) (show _ < 2 ^ 31 by omega), hn]
      rfl
  · have h3 : ¬ nI (2 + gB f (b * 64 + 1)) < 64 := nI_nlt (b := 64) (by omega) (by omega)
    have hn : nx f b 1 = none := by
      unfold nx
      exact if_neg (fun q => h2 (by have := q.2.1; omega))
    simp only [s95_38, s95_39, Option.bind_some, Option.bind_none, Option.toList_some, Option.toList_none, List.nil_append, List.cons_append, ↓reduceIte, reduceCtorEq, cl1_i, cl1_r, cl1_n, cl1_0, cl1_J, okS_0, okS_1, okS_2, okS_3, okS_4, bB_0, bB_and, z_0, z_1, z_10, bB_t, bB_f, Bool.true_eq_false, Bool.false_eq_true, gT0, gT1, gT2, gT3, gT4, gT5, gT6, gF0, gF1, gF2, gF3, gF4, gS0, gS1, gC0, gC1, iT, iF, iS, iC, sT6_0, sT6_1, sF2, sF3, sF4_0, sF4_1, sS1, sC1, h3, hn]
    rfl
theorem c96 (hB : BOk f) {q : Nat} (hq : q < 8) : RunM 96 [.ref 61, .int (nI q)] (hp sc F s c th be qu mo li (hM (mS f mt jl R O A))) = some (some (.int (oI (act f q))), (hp sc F s c th be qu mo li (hM (mS f mt jl R O A)))) := by
  have e1 : (2 : Int32) * nI q = nI (2 * q) := pk_mul 2 q
  have e2 : nI (2 * q) + 1 = nI (2 * q + 1) := nI_1 _
  have e3 : (128 : Int32) * nI q = nI (128 * q) := pk_mul 128 q
  have e4 : nI (128 * q) + 64 = nI (128 * q + 64) := nI_add (128 * q) 64
  have g1 := hB (128 * q) (by omega)
  have g2 := hB (128 * q + 64) (by omega)
  have e5 : newer f (2 * q + 1) (2 * q) = (decide (1 ≤ (gB f (128 * q + 64) + 256 - gB f (128 * q)) % 256) && decide ((gB f (128 * q + 64) + 256 - gB f (128 * q)) % 256 ≤ 127)) := by
    unfold newer
    rw [show (2 * q + 1) * 64 = 128 * q + 64 by omega, show 2 * q * 64 = 128 * q by omega]
  simp only [e96, s96_0, s96_0n, s96_1, s96_2, s96_3, s96_4, s96_7, s96_8, s96_8n, s96_9, s96_10, s96_11, s96_12, s96_13, s96_14, s96_17, s96_18, s96_19, Option.bind_some, Option.bind_none, Option.toList_some, Option.toList_none, List.nil_append, List.cons_append, ↓reduceIte, reduceCtorEq, cl1_i, cl1_r, cl1_n, cl1_0, cl1_J, okS_0, okS_1, okS_2, okS_3, okS_4, bB_0, bB_and, z_0, z_1, z_10, bB_t, bB_f, Bool.true_eq_false, Bool.false_eq_true, gT0, gT1, gT2, gT3, gT4, gT5, gT6, gF0, gF1, gF2, gF3, gF4, gS0, gS1, gC0, gC1, iT, iF, iS, iC, sT6_0, sT6_1, sF2, sF3, sF4_0, sF4_1, sS1, sC1, gM0, gM1, gM2, gM3, gM4, gM5, gM6, gM7, gM8, gM9, gM10, gM11, gM12, gM13, gM14, gM15, gM16, gM17, gM18, iM, sM5, sM6, sM11, sM12, sM13, sM14, sM16, sM18, sM2_0, sM2_1, sM3_0, sM3_1, sM4_0, sM4_1, mS_0, mS_1, mS_2, mS_3, mS_4, mS_5, mS_6, mS_7, mS_8, mS_9, mS_10, mS_11, mS_12, mS_13, mS_14, mS_15, mS_16, mS_17, mS_18, decide_true, decide_false, Bool.not_true, Bool.not_false, e1, e2, c95 hB (show 2 * q < 16 by omega), c95 hB (show 2 * q + 1 < 16 by omega)]
  unfold act
  cases h1 : (nx f (2 * q) 1).isSome with
  | false =>
    cases h2 : (nx f (2 * q + 1) 1).isSome with
    | false => simp only [s96_81, s96_82, s96_85, s96_86, s96_87, s96_88, s96_91, s96_92, s96_95, s96_96, s96_97, s96_98, s96_99, s96_100, s96_103, s96_104, Option.bind_some, Option.bind_none, Option.toList_some, Option.toList_none, List.nil_append, List.cons_append, ↓reduceIte, reduceCtorEq, cl1_i, cl1_r, cl1_n, cl1_0, cl1_J, okS_0, okS_1, okS_2, okS_3, okS_4, bB_0, bB_and, z_0, z_1, z_10, bB_t, bB_f, Bool.true_eq_false, Bool.false_eq_true, gT0, gT1, gT2, gT3, gT4, gT5, gT6, gF0, gF1, gF2, gF3, gF4, gS0, gS1, gC0, gC1, iT, iF, iS, iC, sT6_0, sT6_1, sF2, sF3, sF4_0, sF4_1, sS1, sC1, e1, e2]; rfl
    | true => simp only [s96_81, s96_82, s96_85, s96_86, s96_87, s96_88, s96_91, s96_92, s96_95, s96_96, s96_97, s96_98, s96_99, s96_100, s96_103, s96_104, Option.bind_some, Option.bind_none, Option.toList_some, Option.toList_none, List.nil_append, List.cons_append, ↓reduceIte, reduceCtorEq, cl1_i, cl1_r, cl1_n, cl1_0, cl1_J, okS_0, okS_1, okS_2, okS_3, okS_4, bB_0, bB_and, z_0, z_1, z_10, bB_t, bB_f, Bool.true_eq_false, Bool.false_eq_true, gT0, gT1, gT2, gT3, gT4, gT5, gT6, gF0, gF1, gF2, gF3, gF4, gS0, gS1, gC0, gC1, iT, iF, iS, iC, sT6_0, sT6_1, sF2, sF3, sF4_0, sF4_1, sS1, sC1, e1, e2]; rfl
  | true =>
    cases h2 : (nx f (2 * q + 1) 1).isSome with
    | false => simp only [s96_22, s96_23, s96_81, s96_82, s96_85, s96_86, s96_87, s96_88, s96_91, s96_92, s96_95, s96_96, s96_97, s96_98, s96_99, s96_100, s96_103, s96_104, Option.bind_some, Option.bind_none, Option.toList_some, Option.toList_none, List.nil_append, List.cons_append, ↓reduceIte, reduceCtorEq, cl1_i, cl1_r, cl1_n, cl1_0, cl1_J, okS_0, okS_1, okS_2, okS_3, okS_4, bB_0, bB_and, z_0, z_1, z_10, bB_t, bB_f, Bool.true_eq_false, Bool.false_eq_true, gT0, gT1, gT2, gT3, gT4, gT5, gT6, gF0, gF1, gF2, gF3, gF4, gS0, gS1, gC0, gC1, iT, iF, iS, iC, sT6_0, sT6_1, sF2, sF3, sF4_0, sF4_1, sS1, sC1, e1, e2]; rfl
    | true =>
      simp only [s96_22, s96_23, s96_26, s96_26n, s96_27, s96_30, s96_33, s96_34, s96_35, s96_37, s96_38, s96_39, s96_39n, s96_40, s96_43, s96_46, s96_47, s96_48, s96_49, s96_50, s96_53, s96_54, s96_56, s96_58, s96_59, Option.bind_some, Option.bind_none, Option.toList_some, Option.toList_none, List.nil_append, List.cons_append, ↓reduceIte, reduceCtorEq, cl1_i, cl1_r, cl1_n, cl1_0, cl1_J, okS_0, okS_1, okS_2, okS_3, okS_4, bB_0, bB_and, z_0, z_1, z_10, bB_t, bB_f, Bool.true_eq_false, Bool.false_eq_true, gT0, gT1, gT2, gT3, gT4, gT5, gT6, gF0, gF1, gF2, gF3, gF4, gS0, gS1, gC0, gC1, iT, iF, iS, iC, sT6_0, sT6_1, sF2, sF3, sF4_0, sF4_1, sS1, sC1, gM0, gM1, gM2, gM3, gM4, gM5, gM6, gM7, gM8, gM9, gM10, gM11, gM12, gM13, gM14, gM15, gM16, gM17, gM18, iM, sM5, sM6, sM11, sM12, sM13, sM14, sM16, sM18, sM2_0, sM2_1, sM3_0, sM3_1, sM4_0, sM4_1, mS_0, mS_1, mS_2, mS_3, mS_4, mS_5, mS_6, mS_7, mS_8, mS_9, mS_10, mS_11, mS_12, mS_13, mS_14, mS_15, mS_16, mS_17, mS_18, decide_true, decide_false, Bool.not_true, Bool.not_false, e3, e4, a62 (inB_nI (show 128 * q < 1024 by omega) (by decide)), a62 (inB_nI (show 128 * q + 64 < 1024 by omega) (by decide)), nI_clamp (show 128 * q < 2 ^ 31 by omega), nI_clamp (show 128 * q + 64 < 2 ^ 31 by omega), g1.1, g2.1, sub255 g2.2 g1.2]
      rw [e5]
      generalize hx : (gB f (128 * q + 64) + 256 - gB f (128 * q)) % 256 = x
      have hxl : x < 256 := by omega
      by_cases h3 : 1 ≤ x
      · have h4 : ¬ nI x < 1 := nI_nlt (b := 1) h3 (by omega)
        by_cases h5 : x ≤ 127
        · have h6 : ¬ 127 < nI x := nI_nlt (a := 127) h5 (by decide)
          simp only [s96_62, s96_64, s96_66, s96_69, s96_70, s96_71, s96_72, s96_73, s96_74, s96_77, s96_78, s96_79, s96_80, Option.bind_some, Option.bind_none, Option.toList_some, Option.toList_none, List.nil_append, List.cons_append, ↓reduceIte, reduceCtorEq, cl1_i, cl1_r, cl1_n, cl1_0, cl1_J, okS_0, okS_1, okS_2, okS_3, okS_4, bB_0, bB_and, z_0, z_1, z_10, bB_t, bB_f, Bool.true_eq_false, Bool.false_eq_true, gT0, gT1, gT2, gT3, gT4, gT5, gT6, gF0, gF1, gF2, gF3, gF4, gS0, gS1, gC0, gC1, iT, iF, iS, iC, sT6_0, sT6_1, sF2, sF3, sF4_0, sF4_1, sS1, sC1, h4, h6, decide_eq_true h3, decide_eq_true h5, Bool.and_true, e1, e2]
          rfl
        · have h6 : 127 < nI x := nI_lt (a := 127) (by omega) (by omega)
          simp only [s96_62, s96_64, s96_66, s96_69, s96_70, s96_71, s96_72, s96_73, s96_74, s96_77, s96_78, s96_79, s96_80, Option.bind_some, Option.bind_none, Option.toList_some, Option.toList_none, List.nil_append, List.cons_append, ↓reduceIte, reduceCtorEq, cl1_i, cl1_r, cl1_n, cl1_0, cl1_J, okS_0, okS_1, okS_2, okS_3, okS_4, bB_0, bB_and, z_0, z_1, z_10, bB_t, bB_f, Bool.true_eq_false, Bool.false_eq_true, gT0, gT1, gT2, gT3, gT4, gT5, gT6, gF0, gF1, gF2, gF3, gF4, gS0, gS1, gC0, gC1, iT, iF, iS, iC, sT6_0, sT6_1, sF2, sF3, sF4_0, sF4_1, sS1, sC1, h4, h6, decide_eq_false h5, Bool.and_false, e1]
          rfl
      · have h4 : nI x < 1 := nI_lt (b := 1) (by omega) (by decide)
        simp only [s96_77, s96_78, s96_79, s96_80, Option.bind_some, Option.bind_none, Option.toList_some, Option.toList_none, List.nil_append, List.cons_append, ↓reduceIte, reduceCtorEq, cl1_i, cl1_r, cl1_n, cl1_0, cl1_J, okS_0, okS_1, okS_2, okS_3, okS_4, bB_0, bB_and, z_0, z_1, z_10, bB_t, bB_f, Bool.true_eq_false, Bool.false_eq_true, gT0, gT1, gT2, gT3, gT4, gT5, gT6, gF0, gF1, gF2, gF3, gF4, gS0, gS1, gC0, gC1, iT, iF, iS, iC, sT6_0, sT6_1, sF2, sF3, sF4_0, sF4_1, sS1, sC1, h4, decide_eq_false h3, Bool.false_and, e1]
        rfl
end MOD
