/-! ===== The new objects: the flash, the reference, the tree ===== -/
theorem ast_app1 {h tl : AH} {n m : Nat} {a : AC} {f : Nat → Int32} {i v : Int32} (hn : h.length = n) (hi : inB i m = true) : ast (h ++ a :: arI m f :: tl) (n + 1) .int i (.int v) = some (h ++ a :: arI m (upd f i.toNatClampNeg v) :: tl) := by
  subst hn
  refine ast_of (n := m) (f := fun j => .int (f j)) ?_ hi (by omega) rfl ?_
  · rw [List.getElem?_append_right (by omega), Nat.add_sub_cancel_left]; rfl
  · rw [List.set_append_right _ _ (by omega), Nat.add_sub_cancel_left, updV_int]; rfl
theorem aln_app1 {h tl : AH} {n m : Nat} {a : AC} {f : Nat → Int32} (hn : h.length = n) : aln (h ++ a :: arI m f :: tl) (n + 1) = some (Int32.ofNat m) := by
  subst hn
  unfold aln
  rw [List.getElem?_append_right (by omega), Nat.add_sub_cancel_left]
  rfl
def flN (i : Nat) : Nat → Int32 := fun j => if j < i then 255 else 0
theorem flN_0 : flN 0 = fun _ => 0 := by
  funext j
  simp [flN]
theorem flN_succ (i : Nat) : upd (flN i) i 255 = flN (i + 1) := by
  funext j
  unfold upd flN
  by_cases h : j = i
  · subst h; simp
  · by_cases h2 : j < i
    · simp [h, h2, show j < i + 1 by omega]
    · simp [h, h2, show ¬ j < i + 1 by omega]
section NEWB
variable {h : AH} {n : Nat}
theorem c0_loop (hn : h.length = n) {w : AC} {fs : List Value} : ∀ (d i : Nat), i + d = 1024 → Run 0 38 [some (.ref n), some (.int (nI i))] [] (h ++ .inr (0, .ref (n + 1) :: fs) :: arI 1024 (flN i) :: [w]) = some (none, h ++ .inr (0, .ref (n + 1) :: fs) :: arI 1024 (flN 1024) :: [w]) := by
  intro d
  induction d with
  | zero =>
    intro i hi
    obtain rfl : i = 1024 := by omega
    have h3 : ¬ nI 1024 < Int32.ofNat 1024 := by decide
    simp only [s0_38, s0_39, s0_39n, s0_40, s0_43, s0_44, fld_app hn (show (Value.ref (n + 1) :: fs)[0]? = some (.ref (n + 1)) from rfl), Option.bind_some, aln_app1 hn, h3, if_false]
    simp only [s0_62]
  | succ d ih =>
    intro i hi
    have h3 : nI i < Int32.ofNat 1024 := nI_lt (b := 1024) (by omega) (by decide)
    have h5 : inB (nI i) 1024 = true := inB_nI (by omega) (by decide)
    simp only [s0_38, s0_39, s0_39n, s0_40, s0_43, s0_44, fld_app hn (show (Value.ref (n + 1) :: fs)[0]? = some (.ref (n + 1)) from rfl), Option.bind_some, aln_app1 hn, h3, if_true]
    simp only [s0_47, s0_47n, s0_48, s0_51, s0_52, s0_55, s0_56, s0_59, fld_app hn (show (Value.ref (n + 1) :: fs)[0]? = some (.ref (n + 1)) from rfl), Option.bind_some, ast_app1 hn h5, nI_clamp (show i < 2 ^ 31 by omega), flN_succ, Option.bind_some, Option.bind_none, Option.toList_some, Option.toList_none, List.nil_append, List.cons_append, ↓reduceIte, reduceCtorEq, cl1_i, cl1_r, cl1_n, cl1_0, cl1_J, okS_0, okS_1, okS_2, okS_3, okS_4, bB_0, bB_and, z_0, z_1, z_10, bB_t, bB_f, Bool.true_eq_false, Bool.false_eq_true, gT0, gT1, gT2, gT3, gT4, gT5, gT6, gF0, gF1, gF2, gF3, gF4, gS0, gS1, gC0, gC1, iT, iF, iS, iC, sT6_0, sT6_1, sF2, sF3, sF4_0, sF4_1, sS1, sC1, nI_1]
    exact ih (i + 1) (by omega)
theorem c0 (hn : h.length = n) (h0 : n ≠ 0) : RunM 0 [.ref n] (h ++ [newO 0]) = some (none, h ++ [.inr (0, [.ref (n + 1), .ref (n + 2), .int 0, .int (-1), .int 0]), arI 1024 (flN 1024), arI 16 (fun _ => 0)]) := by
  have hb : (0 : Int) ≤ (1024 : Int32).toInt ∧ (1024 : Int32).toInt ≤ 60000 := by decide
  have hb2 : (0 : Int) ≤ (16 : Int32).toInt ∧ (16 : Int32).toInt ≤ 60000 := by decide
  rw [newO_0]
  simp only [e0, s0_0, s0_0n, s0_1, s0_4, s0_4n, s0_5, s0_8 hb, Option.bind_some, Option.bind_none, Option.toList_some, Option.toList_none, List.nil_append, List.cons_append, ↓reduceIte, reduceCtorEq, cl1_i, cl1_r, cl1_n, cl1_0, cl1_J, okS_0, okS_1, okS_2, okS_3, okS_4, bB_0, bB_and, z_0, z_1, z_10, bB_t, bB_f, Bool.true_eq_false, Bool.false_eq_true, gT0, gT1, gT2, gT3, gT4, gT5, gT6, gF0, gF1, gF2, gF3, gF4, gS0, gS1, gC0, gC1, iT, iF, iS, iC, sT6_0, sT6_1, sF2, sF3, sF4_0, sF4_1, sS1, sC1, List.length_append, List.length_cons, List.length_nil, hn, List.append_assoc]
  simp only [s0_10, stf_app hn h0 (show 0 < [Value.null, .null, .int 0, .int 0, .int 0].length from Nat.le_of_ble_eq_true rfl) (okF_ref (ci := 0) (k := 0) (a := n + 1) rfl rfl), Option.bind_some]
  simp only [s0_13, s0_13n, s0_14, s0_16 hb2, Option.bind_some, Option.bind_none, Option.toList_some, Option.toList_none, List.nil_append, List.cons_append, ↓reduceIte, reduceCtorEq, cl1_i, cl1_r, cl1_n, cl1_0, cl1_J, okS_0, okS_1, okS_2, okS_3, okS_4, bB_0, bB_and, z_0, z_1, z_10, bB_t, bB_f, Bool.true_eq_false, Bool.false_eq_true, gT0, gT1, gT2, gT3, gT4, gT5, gT6, gF0, gF1, gF2, gF3, gF4, gS0, gS1, gC0, gC1, iT, iF, iS, iC, sT6_0, sT6_1, sF2, sF3, sF4_0, sF4_1, sS1, sC1, List.length_append, List.length_cons, List.length_nil, hn, List.append_assoc, List.set_cons_zero, Nat.zero_add]
  simp only [s0_18, stf_app hn h0 (show 1 < [Value.ref (n + 1), .null, .int 0, .int 0, .int 0].length from Nat.le_of_ble_eq_true rfl) (okF_ref (ci := 0) (k := 1) (a := n + (1 + 1)) rfl rfl), Option.bind_some]
  simp only [s0_21, s0_21n, s0_22, List.set_cons_zero, List.set_cons_succ]
  simp only [s0_23, stf_app hn h0 (show 2 < [Value.ref (n + 1), .ref (n + (1 + 1)), .int 0, .int 0, .int 0].length from Nat.le_of_ble_eq_true rfl) (okF_int (ci := 0) (k := 2) (v := 0) rfl), Option.bind_some]
  simp only [s0_26, s0_26n, s0_27, List.set_cons_zero, List.set_cons_succ]
  simp only [s0_28, stf_app hn h0 (show 3 < [Value.ref (n + 1), .ref (n + (1 + 1)), .int 0, .int 0, .int 0].length from Nat.le_of_ble_eq_true rfl) (okF_int (ci := 0) (k := 3) (v := -1) rfl), Option.bind_some]
  simp only [s0_31, s0_31n, s0_32, List.set_cons_zero, List.set_cons_succ]
  simp only [s0_33, stf_app hn h0 (show 4 < [Value.ref (n + 1), .ref (n + (1 + 1)), .int 0, .int (-1), .int 0].length from Nat.le_of_ble_eq_true rfl) (okF_bool (ci := 0) (k := 4) (v := 0) rfl (Or.inl rfl)), Option.bind_some]
  simp only [s0_36, s0_37, List.set_cons_zero, List.set_cons_succ, Option.bind_some, Option.bind_none, Option.toList_some, Option.toList_none, List.nil_append, List.cons_append, ↓reduceIte, reduceCtorEq, cl1_i, cl1_r, cl1_n, cl1_0, cl1_J, okS_0, okS_1, okS_2, okS_3, okS_4, bB_0, bB_and, z_0, z_1, z_10, bB_t, bB_f, Bool.true_eq_false, Bool.false_eq_true, gT0, gT1, gT2, gT3, gT4, gT5, gT6, gF0, gF1, gF2, gF3, gF4, gS0, gS1, gC0, gC1, iT, iF, iS, iC, sT6_0, sT6_1, sF2, sF3, sF4_0, sF4_1, sS1, sC1]
  have := c0_loop hn (w := arI 16 (fun _ => 0)) (fs := [.ref (n + 2), .int 0, .int (-1), .int 0]) 1024 0 rfl
  rw [flN_0, nI_0] at this
  exact this
theorem c88_loop (hn : h.length = n) {tl : AH} {fs : List Value} : ∀ (d i : Nat), i + d = 1024 → Run 88 67 [some (.ref n), some (.int (nI i))] [] (h ++ .inr (5, .ref (n + 1) :: fs) :: arI 1024 (flN i) :: tl) = some (none, h ++ .inr (5, .ref (n + 1) :: fs) :: arI 1024 (flN 1024) :: tl) := by
  intro d
  induction d with
  | zero =>
    intro i hi
    obtain rfl : i = 1024 := by omega
    have h3 : ¬ nI 1024 < 1024 := by decide
    simp only [s88_67, s88_68, s88_71, h3, if_false]
    simp only [s88_89]
  | succ d ih =>
    intro i hi
    have h3 : nI i < 1024 := nI_lt (b := 1024) (by omega) (by decide)
    have h5 : inB (nI i) 1024 = true := inB_nI (by omega) (by decide)
    simp only [s88_67, s88_68, s88_71, h3, if_true]
    simp only [s88_74, s88_74n, s88_75, s88_78, s88_79, s88_82, s88_83, s88_86, fld_app hn (show (Value.ref (n + 1) :: fs)[0]? = some (.ref (n + 1)) from rfl), Option.bind_some, ast_app1 hn h5, nI_clamp (show i < 2 ^ 31 by omega), flN_succ, Option.bind_some, Option.bind_none, Option.toList_some, Option.toList_none, List.nil_append, List.cons_append, ↓reduceIte, reduceCtorEq, cl1_i, cl1_r, cl1_n, cl1_0, cl1_J, okS_0, okS_1, okS_2, okS_3, okS_4, bB_0, bB_and, z_0, z_1, z_10, bB_t, bB_f, Bool.true_eq_false, Bool.false_eq_true, gT0, gT1, gT2, gT3, gT4, gT5, gT6, gF0, gF1, gF2, gF3, gF4, gS0, gS1, gC0, gC1, iT, iF, iS, iC, sT6_0, sT6_1, sF2, sF3, sF4_0, sF4_1, sS1, sC1, nI_1]
    exact ih (i + 1) (by omega)
theorem c88 (hn : h.length = n) (h0 : n ≠ 0) : RunM 88 [.ref n] (h ++ [newO 5]) = some (none, h ++ [.inr (5, [.ref (n + 1), .ref (n + 2), .int 0, .int 0, .int 0, .int 0, .int 0, .ref (n + 3), .ref (n + 4), .ref (n + 5), .ref (n + 6), .int 0, .int 0, .int 0, .int 0, .ref (n + 7), .int 0, .ref (n + 8), .int 0]), arI 1024 (flN 1024), arI 16 (fun _ => 0), arI 4 (fun _ => 0), arI 4 (fun _ => 0), arI 4 (fun _ => 0), arJ 4 (fun _ => 0), arI 32 (fun _ => 0), arI 64 (fun _ => 0)]) := by
  have b1024 : (0 : Int) ≤ (1024 : Int32).toInt ∧ (1024 : Int32).toInt ≤ 60000 := by decide
  have b16 : (0 : Int) ≤ (16 : Int32).toInt ∧ (16 : Int32).toInt ≤ 60000 := by decide
  have b4 : (0 : Int) ≤ (4 : Int32).toInt ∧ (4 : Int32).toInt ≤ 60000 := by decide
  have b32 : (0 : Int) ≤ (32 : Int32).toInt ∧ (32 : Int32).toInt ≤ 60000 := by decide
  have b64 : (0 : Int) ≤ (64 : Int32).toInt ∧ (64 : Int32).toInt ≤ 60000 := by decide
  rw [newO_5]
  simp only [e88, s88_0, s88_0n, s88_1, s88_4, s88_4n, s88_5, s88_8 b1024, Option.bind_some, Option.bind_none, Option.toList_some, Option.toList_none, List.nil_append, List.cons_append, ↓reduceIte, reduceCtorEq, cl1_i, cl1_r, cl1_n, cl1_0, cl1_J, okS_0, okS_1, okS_2, okS_3, okS_4, bB_0, bB_and, z_0, z_1, z_10, bB_t, bB_f, Bool.true_eq_false, Bool.false_eq_true, gT0, gT1, gT2, gT3, gT4, gT5, gT6, gF0, gF1, gF2, gF3, gF4, gS0, gS1, gC0, gC1, iT, iF, iS, iC, sT6_0, sT6_1, sF2, sF3, sF4_0, sF4_1, sS1, sC1, List.length_append, List.length_cons, List.length_nil, hn, List.append_assoc]
  simp only [s88_10, stf_app hn h0 (show 0 < [Value.null, .null, .int 0, .int 0, .int 0, .int 0, .int 0, .null, .null, .null, .null, .int 0, .int 0, .int 0, .int 0, .null, .int 0, .null, .int 0].length from Nat.le_of_ble_eq_true rfl) (okF_ref (ci := 5) (k := 0) (a := n + 1) rfl rfl), Option.bind_some]
  simp only [s88_13, s88_13n, s88_14, s88_16 b16, Option.bind_some, Option.bind_none, Option.toList_some, Option.toList_none, List.nil_append, List.cons_append, ↓reduceIte, reduceCtorEq, cl1_i, cl1_r, cl1_n, cl1_0, cl1_J, okS_0, okS_1, okS_2, okS_3, okS_4, bB_0, bB_and, z_0, z_1, z_10, bB_t, bB_f, Bool.true_eq_false, Bool.false_eq_true, gT0, gT1, gT2, gT3, gT4, gT5, gT6, gF0, gF1, gF2, gF3, gF4, gS0, gS1, gC0, gC1, iT, iF, iS, iC, sT6_0, sT6_1, sF2, sF3, sF4_0, sF4_1, sS1, sC1, List.length_append, List.length_cons, List.length_nil, hn, List.append_assoc, List.set_cons_zero, List.set_cons_succ, Nat.zero_add]
  simp only [s88_18, stf_app hn h0 (show 1 < [Value.ref (n + 1), .null, .int 0, .int 0, .int 0, .int 0, .int 0, .null, .null, .null, .null, .int 0, .int 0, .int 0, .int 0, .null, .int 0, .null, .int 0].length from Nat.le_of_ble_eq_true rfl) (okF_ref (ci := 5) (k := 1) (a := n + (1 + 1)) rfl rfl), Option.bind_some]
  simp only [s88_21, s88_21n, s88_22, s88_23 b4, Option.bind_some, Option.bind_none, Option.toList_some, Option.toList_none, List.nil_append, List.cons_append, ↓reduceIte, reduceCtorEq, cl1_i, cl1_r, cl1_n, cl1_0, cl1_J, okS_0, okS_1, okS_2, okS_3, okS_4, bB_0, bB_and, z_0, z_1, z_10, bB_t, bB_f, Bool.true_eq_false, Bool.false_eq_true, gT0, gT1, gT2, gT3, gT4, gT5, gT6, gF0, gF1, gF2, gF3, gF4, gS0, gS1, gC0, gC1, iT, iF, iS, iC, sT6_0, sT6_1, sF2, sF3, sF4_0, sF4_1, sS1, sC1, List.length_append, List.length_cons, List.length_nil, hn, List.append_assoc, List.set_cons_zero, List.set_cons_succ, Nat.zero_add]
  simp only [s88_25, stf_app hn h0 (show 7 < [Value.ref (n + 1), .ref (n + (1 + 1)), .int 0, .int 0, .int 0, .int 0, .int 0, .null, .null, .null, .null, .int 0, .int 0, .int 0, .int 0, .null, .int 0, .null, .int 0].length from Nat.le_of_ble_eq_true rfl) (okF_ref (ci := 5) (k := 7) (a := n + (1 + 1 + 1)) rfl rfl), Option.bind_some]
  simp only [s88_28, s88_28n, s88_29, s88_30 b4, Option.bind_some, Option.bind_none, Option.toList_some, Option.toList_none, List.nil_append, List.cons_append, ↓reduceIte, reduceCtorEq, cl1_i, cl1_r, cl1_n, cl1_0, cl1_J, okS_0, okS_1, okS_2, okS_3, okS_4, bB_0, bB_and, z_0, z_1, z_10, bB_t, bB_f, Bool.true_eq_false, Bool.false_eq_true, gT0, gT1, gT2, gT3, gT4, gT5, gT6, gF0, gF1, gF2, gF3, gF4, gS0, gS1, gC0, gC1, iT, iF, iS, iC, sT6_0, sT6_1, sF2, sF3, sF4_0, sF4_1, sS1, sC1, List.length_append, List.length_cons, List.length_nil, hn, List.append_assoc, List.set_cons_zero, List.set_cons_succ, Nat.zero_add]
  simp only [s88_32, stf_app hn h0 (show 8 < [Value.ref (n + 1), .ref (n + (1 + 1)), .int 0, .int 0, .int 0, .int 0, .int 0, .ref (n + (1 + 1 + 1)), .null, .null, .null, .int 0, .int 0, .int 0, .int 0, .null, .int 0, .null, .int 0].length from Nat.le_of_ble_eq_true rfl) (okF_ref (ci := 5) (k := 8) (a := n + (1 + 1 + 1 + 1)) rfl rfl), Option.bind_some]
  simp only [s88_35, s88_35n, s88_36, s88_37 b4, Option.bind_some, Option.bind_none, Option.toList_some, Option.toList_none, List.nil_append, List.cons_append, ↓reduceIte, reduceCtorEq, cl1_i, cl1_r, cl1_n, cl1_0, cl1_J, okS_0, okS_1, okS_2, okS_3, okS_4, bB_0, bB_and, z_0, z_1, z_10, bB_t, bB_f, Bool.true_eq_false, Bool.false_eq_true, gT0, gT1, gT2, gT3, gT4, gT5, gT6, gF0, gF1, gF2, gF3, gF4, gS0, gS1, gC0, gC1, iT, iF, iS, iC, sT6_0, sT6_1, sF2, sF3, sF4_0, sF4_1, sS1, sC1, List.length_append, List.length_cons, List.length_nil, hn, List.append_assoc, List.set_cons_zero, List.set_cons_succ, Nat.zero_add]
  simp only [s88_39, stf_app hn h0 (show 9 < [Value.ref (n + 1), .ref (n + (1 + 1)), .int 0, .int 0, .int 0, .int 0, .int 0, .ref (n + (1 + 1 + 1)), .ref (n + (1 + 1 + 1 + 1)), .null, .null, .int 0, .int 0, .int 0, .int 0, .null, .int 0, .null, .int 0].length from Nat.le_of_ble_eq_true rfl) (okF_ref (ci := 5) (k := 9) (a := n + (1 + 1 + 1 + 1 + 1)) rfl rfl), Option.bind_some]
  simp only [s88_42, s88_42n, s88_43, s88_44 b4, Option.bind_some, Option.bind_none, Option.toList_some, Option.toList_none, List.nil_append, List.cons_append, ↓reduceIte, reduceCtorEq, cl1_i, cl1_r, cl1_n, cl1_0, cl1_J, okS_0, okS_1, okS_2, okS_3, okS_4, bB_0, bB_and, z_0, z_1, z_10, bB_t, bB_f, Bool.true_eq_false, Bool.false_eq_true, gT0, gT1, gT2, gT3, gT4, gT5, gT6, gF0, gF1, gF2, gF3, gF4, gS0, gS1, gC0, gC1, iT, iF, iS, iC, sT6_0, sT6_1, sF2, sF3, sF4_0, sF4_1, sS1, sC1, List.length_append, List.length_cons, List.length_nil, hn, List.append_assoc, List.set_cons_zero, List.set_cons_succ, Nat.zero_add]
  simp only [s88_46, stf_app hn h0 (show 10 < [Value.ref (n + 1), .ref (n + (1 + 1)), .int 0, .int 0, .int 0, .int 0, .int 0, .ref (n + (1 + 1 + 1)), .ref (n + (1 + 1 + 1 + 1)), .ref (n + (1 + 1 + 1 + 1 + 1)), .null, .int 0, .int 0, .int 0, .int 0, .null, .int 0, .null, .int 0].length from Nat.le_of_ble_eq_true rfl) (okF_ref (ci := 5) (k := 10) (a := n + (1 + 1 + 1 + 1 + 1 + 1)) rfl rfl), Option.bind_some]
  simp only [s88_49, s88_49n, s88_50, s88_52 b32, Option.bind_some, Option.bind_none, Option.toList_some, Option.toList_none, List.nil_append, List.cons_append, ↓reduceIte, reduceCtorEq, cl1_i, cl1_r, cl1_n, cl1_0, cl1_J, okS_0, okS_1, okS_2, okS_3, okS_4, bB_0, bB_and, z_0, z_1, z_10, bB_t, bB_f, Bool.true_eq_false, Bool.false_eq_true, gT0, gT1, gT2, gT3, gT4, gT5, gT6, gF0, gF1, gF2, gF3, gF4, gS0, gS1, gC0, gC1, iT, iF, iS, iC, sT6_0, sT6_1, sF2, sF3, sF4_0, sF4_1, sS1, sC1, List.length_append, List.length_cons, List.length_nil, hn, List.append_assoc, List.set_cons_zero, List.set_cons_succ, Nat.zero_add]
  simp only [s88_54, stf_app hn h0 (show 15 < [Value.ref (n + 1), .ref (n + (1 + 1)), .int 0, .int 0, .int 0, .int 0, .int 0, .ref (n + (1 + 1 + 1)), .ref (n + (1 + 1 + 1 + 1)), .ref (n + (1 + 1 + 1 + 1 + 1)), .ref (n + (1 + 1 + 1 + 1 + 1 + 1)), .int 0, .int 0, .int 0, .int 0, .null, .int 0, .null, .int 0].length from Nat.le_of_ble_eq_true rfl) (okF_ref (ci := 5) (k := 15) (a := n + (1 + 1 + 1 + 1 + 1 + 1 + 1)) rfl rfl), Option.bind_some]
  simp only [s88_57, s88_57n, s88_58, s88_60 b64, Option.bind_some, Option.bind_none, Option.toList_some, Option.toList_none, List.nil_append, List.cons_append, ↓reduceIte, reduceCtorEq, cl1_i, cl1_r, cl1_n, cl1_0, cl1_J, okS_0, okS_1, okS_2, okS_3, okS_4, bB_0, bB_and, z_0, z_1, z_10, bB_t, bB_f, Bool.true_eq_false, Bool.false_eq_true, gT0, gT1, gT2, gT3, gT4, gT5, gT6, gF0, gF1, gF2, gF3, gF4, gS0, gS1, gC0, gC1, iT, iF, iS, iC, sT6_0, sT6_1, sF2, sF3, sF4_0, sF4_1, sS1, sC1, List.length_append, List.length_cons, List.length_nil, hn, List.append_assoc, List.set_cons_zero, List.set_cons_succ, Nat.zero_add]
  simp only [s88_62, stf_app hn h0 (show 17 < [Value.ref (n + 1), .ref (n + (1 + 1)), .int 0, .int 0, .int 0, .int 0, .int 0, .ref (n + (1 + 1 + 1)), .ref (n + (1 + 1 + 1 + 1)), .ref (n + (1 + 1 + 1 + 1 + 1)), .ref (n + (1 + 1 + 1 + 1 + 1 + 1)), .int 0, .int 0, .int 0, .int 0, .ref (n + (1 + 1 + 1 + 1 + 1 + 1 + 1)), .int 0, .null, .int 0].length from Nat.le_of_ble_eq_true rfl) (okF_ref (ci := 5) (k := 17) (a := n + (1 + 1 + 1 + 1 + 1 + 1 + 1 + 1)) rfl rfl), Option.bind_some]
  simp only [s88_65, s88_66, List.set_cons_zero, List.set_cons_succ, Option.bind_some, Option.bind_none, Option.toList_some, Option.toList_none, List.nil_append, List.cons_append, ↓reduceIte, reduceCtorEq, cl1_i, cl1_r, cl1_n, cl1_0, cl1_J, okS_0, okS_1, okS_2, okS_3, okS_4, bB_0, bB_and, z_0, z_1, z_10, bB_t, bB_f, Bool.true_eq_false, Bool.false_eq_true, gT0, gT1, gT2, gT3, gT4, gT5, gT6, gF0, gF1, gF2, gF3, gF4, gS0, gS1, gC0, gC1, iT, iF, iS, iC, sT6_0, sT6_1, sF2, sF3, sF4_0, sF4_1, sS1, sC1]
  have := c88_loop hn (tl := [arI 16 (fun _ => 0), arI 4 (fun _ => 0), arI 4 (fun _ => 0), arI 4 (fun _ => 0), arJ 4 (fun _ => 0), arI 32 (fun _ => 0), arI 64 (fun _ => 0)]) (fs := [.ref (n + 2), .int 0, .int 0, .int 0, .int 0, .int 0, .ref (n + 3), .ref (n + 4), .ref (n + 5), .ref (n + 6), .int 0, .int 0, .int 0, .int 0, .ref (n + 7), .int 0, .ref (n + 8), .int 0]) 1024 0 rfl
  rw [flN_0, nI_0] at this
  exact this
end NEWB
