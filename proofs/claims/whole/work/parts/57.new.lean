/-! ===== The new objects ===== -/
theorem okF_ref {ci k a : Nat} (h1 : fits (fty ci k) (.ref a) = true) (h2 : narrow (fty ci k) (.ref a) = .ref a) : okF ci k (.ref a) = true := by
  unfold okF
  rw [h1, h2]
  simp
theorem stf_app {h tl : AH} {n ci k : Nat} {fs : List Value} {v : Value} (hn : h.length = n) (h0 : n ≠ 0) (hk : k < fs.length) (ho : okF ci k v = true) : stf (h ++ .inr (ci, fs) :: tl) n ci k v = some (h ++ .inr (ci, fs.set k v) :: tl) := by
  subst hn
  refine stf_of ?_ ho h0 hk ?_
  · rw [List.getElem?_append_right (Nat.le_refl _), Nat.sub_self]; rfl
  · rw [List.set_append_right _ _ (Nat.le_refl _), Nat.sub_self]; rfl
theorem fld_app {h tl : AH} {n ci k : Nat} {fs : List Value} {v : Value} (hn : h.length = n) (hk : fs[k]? = some v) : fld (h ++ .inr (ci, fs) :: tl) n ci k = some v := by
  subst hn
  exact fld_of (by rw [List.getElem?_append_right (Nat.le_refl _), Nat.sub_self]; rfl) hk
theorem isO_app {h tl : AH} {n ci : Nat} {fs : List Value} (hn : h.length = n) : isO (h ++ .inr (ci, fs) :: tl) n ci = true := by
  subst hn
  unfold isO
  rw [List.getElem?_append_right (Nat.le_refl _), Nat.sub_self]
  simp
theorem newO_0 : newO 0 = .inr (0, [.null, .null, .int 0, .int 0, .int 0]) := rfl
theorem newO_1 : newO 1 = .inr (1, [.int 0, .null, .null, .null]) := rfl
theorem newO_2 : newO 2 = .inr (2, [.null, .null, .null, .null, .int 0, .int 0, .int 0]) := rfl
theorem newO_3 : newO 3 = .inr (3, [.null, .int 0]) := rfl
theorem newO_4 : newO 4 = .inr (4, [.null, .null, .null, .null, .null, .null, .int 0]) := rfl
theorem newO_5 : newO 5 = .inr (5, [.null, .null, .int 0, .int 0, .int 0, .int 0, .int 0, .null, .null, .null, .null, .int 0, .int 0, .int 0, .int 0, .null, .int 0, .null, .int 0]) := rfl
section NEW
variable {h : AH} {n : Nat}
theorem c42 (hn : h.length = n) (h0 : n ≠ 0) : RunM 42 [.ref n] (h ++ [newO 3]) = some (none, h ++ [.inr (3, [.ref (n + 1), .int 0]), arI 64 (fun _ => 0)]) := by
  have hb : (0 : Int) ≤ (64 : Int32).toInt ∧ (64 : Int32).toInt ≤ 60000 := by decide
  rw [newO_3]
  simp only [e42, s42_0, s42_0n, s42_1, s42_4, s42_4n, s42_5, s42_7 hb, Option.bind_some, Option.bind_none, Option.toList_some, Option.toList_none, List.nil_append, List.cons_append, ↓reduceIte, reduceCtorEq, cl1_i, cl1_r, cl1_n, cl1_0, cl1_J, okS_0, okS_1, okS_2, okS_3, okS_4, bB_0, bB_and, z_0, z_1, z_10, bB_t, bB_f, Bool.true_eq_false, Bool.false_eq_true, gT0, gT1, gT2, gT3, gT4, gT5, gT6, gF0, gF1, gF2, gF3, gF4, gS0, gS1, gC0, gC1, iT, iF, iS, iC, sT6_0, sT6_1, sF2, sF3, sF4_0, sF4_1, sS1, sC1, List.length_append, List.length_cons, List.length_nil, hn, List.append_assoc]
  simp only [s42_9, stf_app hn h0 (show 0 < [Value.null, Value.int 0].length from Nat.le_of_ble_eq_true rfl) (okF_ref (ci := 3) (k := 0) (a := n + 1) rfl rfl), Option.bind_some]
  simp only [s42_12, s42_12n, s42_13, List.set_cons_zero, Nat.zero_add]
  simp only [s42_14, stf_app hn h0 (show 1 < [Value.ref (n + 1), Value.int 0].length from Nat.le_of_ble_eq_true rfl) (okF_int (ci := 3) (k := 1) (v := 0) rfl), Option.bind_some]
  simp only [s42_17]
  rfl
theorem c23 (hn : h.length = n) (h0 : n ≠ 0) : RunM 23 [.ref n] (h ++ [newO 2]) = some (none, h ++ [.inr (2, [.ref (n + 1), .ref (n + 2), .ref (n + 3), .ref (n + 4), .int 0, .int (-1), .int 0]), arI 4 (fun _ => 0), arI 4 (fun _ => 0), arI 4 (fun _ => 0), arJ 4 (fun _ => 0)]) := by
  have hb : (0 : Int) ≤ (4 : Int32).toInt ∧ (4 : Int32).toInt ≤ 60000 := by decide
  rw [newO_2]
  simp only [e23, s23_0, s23_0n, s23_1, s23_4, s23_4n, s23_5, s23_6 hb, Option.bind_some, Option.bind_none, Option.toList_some, Option.toList_none, List.nil_append, List.cons_append, ↓reduceIte, reduceCtorEq, cl1_i, cl1_r, cl1_n, cl1_0, cl1_J, okS_0, okS_1, okS_2, okS_3, okS_4, bB_0, bB_and, z_0, z_1, z_10, bB_t, bB_f, Bool.true_eq_false, Bool.false_eq_true, gT0, gT1, gT2, gT3, gT4, gT5, gT6, gF0, gF1, gF2, gF3, gF4, gS0, gS1, gC0, gC1, iT, iF, iS, iC, sT6_0, sT6_1, sF2, sF3, sF4_0, sF4_1, sS1, sC1, List.length_append, List.length_cons, List.length_nil, hn, List.append_assoc]
  simp only [s23_8, stf_app hn h0 (show 0 < [Value.null, .null, .null, .null, .int 0, .int 0, .int 0].length from Nat.le_of_ble_eq_true rfl) (okF_ref (ci := 2) (k := 0) (a := n + 1) rfl rfl), Option.bind_some]
  simp only [s23_11, s23_11n, s23_12, s23_13 hb, Option.bind_some, Option.bind_none, Option.toList_some, Option.toList_none, List.nil_append, List.cons_append, ↓reduceIte, reduceCtorEq, cl1_i, cl1_r, cl1_n, cl1_0, cl1_J, okS_0, okS_1, okS_2, okS_3, okS_4, bB_0, bB_and, z_0, z_1, z_10, bB_t, bB_f, Bool.true_eq_false, Bool.false_eq_true, gT0, gT1, gT2, gT3, gT4, gT5, gT6, gF0, gF1, gF2, gF3, gF4, gS0, gS1, gC0, gC1, iT, iF, iS, iC, sT6_0, sT6_1, sF2, sF3, sF4_0, sF4_1, sS1, sC1, List.length_append, List.length_cons, List.length_nil, hn, List.append_assoc, List.set_cons_zero, Nat.zero_add]
  simp only [s23_15, stf_app hn h0 (show 1 < [Value.ref (n + 1), .null, .null, .null, .int 0, .int 0, .int 0].length from Nat.le_of_ble_eq_true rfl) (okF_ref (ci := 2) (k := 1) (a := n + (1 + 1)) rfl rfl), Option.bind_some]
  simp only [s23_18, s23_18n, s23_19, s23_20 hb, Option.bind_some, Option.bind_none, Option.toList_some, Option.toList_none, List.nil_append, List.cons_append, ↓reduceIte, reduceCtorEq, cl1_i, cl1_r, cl1_n, cl1_0, cl1_J, okS_0, okS_1, okS_2, okS_3, okS_4, bB_0, bB_and, z_0, z_1, z_10, bB_t, bB_f, Bool.true_eq_false, Bool.false_eq_true, gT0, gT1, gT2, gT3, gT4, gT5, gT6, gF0, gF1, gF2, gF3, gF4, gS0, gS1, gC0, gC1, iT, iF, iS, iC, sT6_0, sT6_1, sF2, sF3, sF4_0, sF4_1, sS1, sC1, List.length_append, List.length_cons, List.length_nil, hn, List.append_assoc, List.set_cons_zero, List.set_cons_succ, Nat.zero_add]
  simp only [s23_22, stf_app hn h0 (show 2 < [Value.ref (n + 1), .ref (n + (1 + 1)), .null, .null, .int 0, .int 0, .int 0].length from Nat.le_of_ble_eq_true rfl) (okF_ref (ci := 2) (k := 2) (a := n + (1 + 1 + 1)) rfl rfl), Option.bind_some]
  simp only [s23_25, s23_25n, s23_26, s23_27 hb, Option.bind_some, Option.bind_none, Option.toList_some, Option.toList_none, List.nil_append, List.cons_append, ↓reduceIte, reduceCtorEq, cl1_i, cl1_r, cl1_n, cl1_0, cl1_J, okS_0, okS_1, okS_2, okS_3, okS_4, bB_0, bB_and, z_0, z_1, z_10, bB_t, bB_f, Bool.true_eq_false, Bool.false_eq_true, gT0, gT1, gT2, gT3, gT4, gT5, gT6, gF0, gF1, gF2, gF3, gF4, gS0, gS1, gC0, gC1, iT, iF, iS, iC, sT6_0, sT6_1, sF2, sF3, sF4_0, sF4_1, sS1, sC1, List.length_append, List.length_cons, List.length_nil, hn, List.append_assoc, List.set_cons_zero, List.set_cons_succ, Nat.zero_add]
  simp only [s23_29, stf_app hn h0 (show 3 < [Value.ref (n + 1), .ref (n + (1 + 1)), .ref (n + (1 + 1 + 1)), .null, .int 0, .int 0, .int 0].length from Nat.le_of_ble_eq_true rfl) (okF_ref (ci := 2) (k := 3) (a := n + (1 + 1 + 1 + 1)) rfl rfl), Option.bind_some]
  simp only [s23_32, s23_32n, s23_33, List.set_cons_zero, List.set_cons_succ]
  simp only [s23_34, stf_app hn h0 (show 4 < [Value.ref (n + 1), .ref (n + (1 + 1)), .ref (n + (1 + 1 + 1)), .ref (n + (1 + 1 + 1 + 1)), .int 0, .int 0, .int 0].length from Nat.le_of_ble_eq_true rfl) (okF_int (ci := 2) (k := 4) (v := 0) rfl), Option.bind_some]
  simp only [s23_37, s23_37n, s23_38, List.set_cons_zero, List.set_cons_succ]
  simp only [s23_39, stf_app hn h0 (show 5 < [Value.ref (n + 1), .ref (n + (1 + 1)), .ref (n + (1 + 1 + 1)), .ref (n + (1 + 1 + 1 + 1)), .int 0, .int 0, .int 0].length from Nat.le_of_ble_eq_true rfl) (okF_int (ci := 2) (k := 5) (v := -1) rfl), Option.bind_some]
  simp only [s23_42, s23_42n, s23_43, List.set_cons_zero, List.set_cons_succ]
  simp only [s23_44, stf_app hn h0 (show 6 < [Value.ref (n + 1), .ref (n + (1 + 1)), .ref (n + (1 + 1 + 1)), .ref (n + (1 + 1 + 1 + 1)), .int 0, .int (-1), .int 0].length from Nat.le_of_ble_eq_true rfl) (okF_int (ci := 2) (k := 6) (v := 0) rfl), Option.bind_some]
  simp only [s23_47]
  rfl
theorem c13 (hn : h.length = n) (h0 : n ≠ 0) {v : Int32} : RunM 13 [.ref n, .int v, .ref 2, .ref 5] (h ++ [newO 1]) = some (none, h ++ [.inr (1, [.int v, .ref 2, .ref 5, .ref (n + 1)]), .inr (2, [.ref (n + 2), .ref (n + 3), .ref (n + 4), .ref (n + 5), .int 0, .int (-1), .int 0]), arI 4 (fun _ => 0), arI 4 (fun _ => 0), arI 4 (fun _ => 0), arJ 4 (fun _ => 0)]) := by
  have r := c23 (h := h ++ [.inr (1, [.int v, .ref 2, .ref 5, .null])]) (n := n + 1) (by simp [hn]) (by omega)
  rw [List.append_assoc, List.append_assoc] at r
  rw [newO_1]
  simp only [e13, s13_0, s13_0n, s13_1, s13_4, s13_4n, s13_5, Option.bind_some, Option.bind_none, Option.toList_some, Option.toList_none, List.nil_append, List.cons_append, ↓reduceIte, reduceCtorEq, cl1_i, cl1_r, cl1_n, cl1_0, cl1_J, okS_0, okS_1, okS_2, okS_3, okS_4, bB_0, bB_and, z_0, z_1, z_10, bB_t, bB_f, Bool.true_eq_false, Bool.false_eq_true, gT0, gT1, gT2, gT3, gT4, gT5, gT6, gF0, gF1, gF2, gF3, gF4, gS0, gS1, gC0, gC1, iT, iF, iS, iC, sT6_0, sT6_1, sF2, sF3, sF4_0, sF4_1, sS1, sC1]
  simp only [s13_6, stf_app hn h0 (show 0 < [Value.int 0, .null, .null, .null].length from Nat.le_of_ble_eq_true rfl) (okF_int (ci := 1) (k := 0) (v := v) rfl), Option.bind_some]
  simp only [s13_9, s13_9n, s13_10, s13_10n, List.set_cons_zero]
  simp only [s13_11, stf_app hn h0 (show 1 < [Value.int v, .null, .null, .null].length from Nat.le_of_ble_eq_true rfl) (okF_ref (ci := 1) (k := 1) (a := 2) rfl rfl), Option.bind_some]
  simp only [s13_14, s13_14n, s13_15, s13_15n, List.set_cons_zero, List.set_cons_succ]
  simp only [s13_16, stf_app hn h0 (show 2 < [Value.int v, .ref 2, .null, .null].length from Nat.le_of_ble_eq_true rfl) (okF_ref (ci := 1) (k := 2) (a := 5) rfl rfl), Option.bind_some]
  simp only [s13_19, s13_19n, s13_20, s13_23, List.set_cons_zero, List.set_cons_succ, List.length_append, List.length_cons, List.length_nil, hn, List.append_assoc, List.cons_append, List.nil_append, Nat.zero_add]
  simp only [List.cons_append, List.nil_append] at r
  simp only [s13_24, Option.bind_some, Option.bind_none, Option.toList_some, Option.toList_none, List.nil_append, List.cons_append, ↓reduceIte, reduceCtorEq, cl1_i, cl1_r, cl1_n, cl1_0, cl1_J, okS_0, okS_1, okS_2, okS_3, okS_4, bB_0, bB_and, z_0, z_1, z_10, bB_t, bB_f, Bool.true_eq_false, Bool.false_eq_true, gT0, gT1, gT2, gT3, gT4, gT5, gT6, gF0, gF1, gF2, gF3, gF4, gS0, gS1, gC0, gC1, iT, iF, iS, iC, sT6_0, sT6_1, sF2, sF3, sF4_0, sF4_1, sS1, sC1, r]
  simp only [s13_27, stf_app hn h0 (show 3 < [Value.int v, .ref 2, .ref 5, .null].length from Nat.le_of_ble_eq_true rfl) (okF_ref (ci := 1) (k := 3) (a := n + 1) rfl rfl), Option.bind_some]
  simp only [s13_30]
  rfl
end NEW
