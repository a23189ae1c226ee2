/-! ===== A new tree ===== -/
def l0 : LiS := (fun _ => 0, fun _ => 0, fun _ => 0, fun _ => 0, 0, -1, 0)
def foq (q : Nat) : Nat → Value := fun j => if j < q then .ref (13 + 6 * j) else .null
theorem foq_0 : foq 0 = fun _ => .null := by
  funext j
  simp [foq]
theorem foq_succ (q : Nat) : updV (foq q) q (.ref (13 + 6 * q)) = foq (q + 1) := by
  funext j
  unfold updV foq
  by_cases h : j = q
  · subst h; simp
  · by_cases h2 : j < q
    · simp [h, h2, show j < q + 1 by omega]
    · simp [h, h2, show ¬ j < q + 1 by omega]
/-- the thirteen cells before the folders -/
def b13 (sc : AC) (fo : Nat → Value) : AH := [sc, .inr (4, [.ref 2, .ref 7, .ref 8, .ref 9, .ref 10, .ref 11, .int 0]), .inr (0, [.ref 3, .ref 4, .int 0, .int (-1), .int 0]), arI 1024 (flN 1024), arI 16 (fun _ => 0), .inr (3, [.ref 6, .int 0]), arI 64 (fun _ => 0), .inl (.object (cName 1), 8, fo), arZ 8 (fun _ => 0), arZ 8 (fun _ => 0), arI 8 (fun _ => 0), .inr (3, [.ref 12, .int 0]), arI 64 (fun _ => 0)]
def gq (q : Nat) : AH := (List.range q).flatMap fun k => fC k l0
theorem gq_len (q : Nat) : (gq q).length = 6 * q := by
  induction q with
  | zero => rfl
  | succ q ih =>
    unfold gq at ih ⊢
    rw [List.range_succ, List.flatMap_append, List.length_append, ih]
    simp only [List.flatMap_cons, List.flatMap_nil, List.append_nil]
    show 6 * q + 6 = _
    omega
theorem gq_succ (q : Nat) : gq (q + 1) = gq q ++ fC q l0 := by
  unfold gq
  rw [List.range_succ, List.flatMap_append]
  simp only [List.flatMap_cons, List.flatMap_nil, List.append_nil]
theorem c53_loop {sc : AC} : ∀ (d q : Nat), q + d = 8 → Run 53 76 [some (.ref 1), some (.ref 2), some (.ref 5), some (.int (nI q))] [] (b13 sc (foq q) ++ gq q) = some (none, b13 sc (foq 8) ++ gq 8) := by
  intro d
  induction d with
  | zero =>
    intro q hq
    obtain rfl : q = 8 := by omega
    have h3 : ¬ nI 8 < 8 := by decide
    simp only [s53_76, s53_77, s53_79, h3, if_false]
    simp only [s53_104]
  | succ d ih =>
    intro q hq
    have h3 : nI q < 8 := nI_lit (k := 8) (by omega) (by decide)
    have hlen : (b13 sc (foq q) ++ gq q).length = 13 + 6 * q := by rw [List.length_append, gq_len]; rfl
    have r := c13 hlen (by omega) (v := nI q)
    have hi : inB (nI q) 8 = true := inB_nI (by omega) (by decide)
    have g1 : fld (b13 sc (foq q) ++ gq q) 1 4 1 = some (.ref 7) := rfl
    have hfin : (b13 sc (foq q) ++ gq q) ++ [.inr (1, [.int (nI q), .ref 2, .ref 5, .ref (13 + 6 * q + 1)]), .inr (2, [.ref (13 + 6 * q + 2), .ref (13 + 6 * q + 3), .ref (13 + 6 * q + 4), .ref (13 + 6 * q + 5), .int 0, .int (-1), .int 0]), arI 4 (fun _ => 0), arI 4 (fun _ => 0), arI 4 (fun _ => 0), arJ 4 (fun _ => 0)] = b13 sc (foq q) ++ gq (q + 1) := by
      rw [gq_succ, ← List.append_assoc]
      have e : ∀ k, 13 + 6 * q + (k + 1) = 14 + 6 * q + k := fun k => by omega
      have e0 : 13 + 6 * q + 1 = 14 + 6 * q := by omega
      have e1 : 13 + 6 * q + 2 = 15 + 6 * q := by omega
      have e2 : 13 + 6 * q + 3 = 16 + 6 * q := by omega
      have e3 : 13 + 6 * q + 4 = 17 + 6 * q := by omega
      have e4 : 13 + 6 * q + 5 = 18 + 6 * q := by omega
      rw [e0, e1, e2, e3, e4]
      rfl
    have hO : isO (b13 sc (foq q) ++ gq (q + 1)) (13 + 6 * q) 1 = true := by
      rw [← hfin]
      exact isO_app hlen
    have hst : ast (b13 sc (foq q) ++ gq (q + 1)) 7 (.object (cName 1)) (nI q) (.ref (13 + 6 * q)) = some (b13 sc (foq (q + 1)) ++ gq (q + 1)) := by
      refine ast_of (n := 8) (f := foq q) rfl hi (by decide) rfl ?_
      rw [nI_clamp (by omega), foq_succ]
      rfl
    rw [hfin] at r
    simp only [s53_76, s53_77, s53_79, h3, if_true]
    simp only [s53_82, s53_82n, s53_83, s53_86, g1, Option.bind_some]
    rw [s53_87, hlen]
    simp only [s53_90, s53_91, s53_92, s53_92n, s53_93, s53_93n]
    simp only [s53_94, Option.bind_some, Option.bind_none, Option.toList_some, Option.toList_none, List.nil_append, List.cons_append, ↓reduceIte, reduceCtorEq, cl1_i, cl1_r, cl1_n, cl1_0, cl1_J, okS_0, okS_1, okS_2, okS_3, okS_4, bB_0, bB_and, z_0, z_1, z_10, bB_t, bB_f, Bool.true_eq_false, Bool.false_eq_true, gT0, gT1, gT2, gT3, gT4, gT5, gT6, gF0, gF1, gF2, gF3, gF4, gS0, gS1, gC0, gC1, iT, iF, iS, iC, sT6_0, sT6_1, sF2, sF3, sF4_0, sF4_1, sS1, sC1, r]
    simp only [s53_97, hO, hst, Option.bind_some]
    simp only [s53_98, s53_101, Option.bind_some, Option.bind_none, Option.toList_some, Option.toList_none, List.nil_append, List.cons_append, ↓reduceIte, reduceCtorEq, cl1_i, cl1_r, cl1_n, cl1_0, cl1_J, okS_0, okS_1, okS_2, okS_3, okS_4, bB_0, bB_and, z_0, z_1, z_10, bB_t, bB_f, Bool.true_eq_false, Bool.false_eq_true, gT0, gT1, gT2, gT3, gT4, gT5, gT6, gF0, gF1, gF2, gF3, gF4, gS0, gS1, gC0, gC1, iT, iF, iS, iC, sT6_0, sT6_1, sF2, sF3, sF4_0, sF4_1, sS1, sC1, nI_1]
    exact ih (q + 1) (by omega)
def fb0 : FB := (flN 1024, fun _ => 0, 0, -1, false)
def op0 : OpS := (fun _ => 0, 0)
theorem b13_hp {sc : AC} : b13 sc (foq 8) ++ gq 8 = hp sc (fB fb0) op0 op0 (fun _ => 0) (fun _ => 0) (fun _ => 0) 0 (fun _ => l0) [] := rfl
theorem c53 {sc : AC} : RunM 53 [.ref 1] [sc, newO 4] = some (none, hp sc (fB fb0) op0 op0 (fun _ => 0) (fun _ => 0) (fun _ => 0) 0 (fun _ => l0) []) := by
  have r1 : RunM 0 [.ref 2] [sc, newO 4, newO 0] = some (none, [sc, newO 4, .inr (0, [.ref 3, .ref 4, .int 0, .int (-1), .int 0]), arI 1024 (flN 1024), arI 16 (fun _ => 0)]) := c0 (h := [sc, newO 4]) rfl (by decide)
  have r2 : RunM 42 [.ref 5] [sc, newO 4, .inr (0, [.ref 3, .ref 4, .int 0, .int (-1), .int 0]), arI 1024 (flN 1024), arI 16 (fun _ => 0), newO 3] = some (none, [sc, newO 4, .inr (0, [.ref 3, .ref 4, .int 0, .int (-1), .int 0]), arI 1024 (flN 1024), arI 16 (fun _ => 0), .inr (3, [.ref 6, .int 0]), arI 64 (fun _ => 0)]) := c42 (h := [sc, newO 4, .inr (0, [.ref 3, .ref 4, .int 0, .int (-1), .int 0]), arI 1024 (flN 1024), arI 16 (fun _ => 0)]) rfl (by decide)
  have b8 : (0 : Int) ≤ (8 : Int32).toInt ∧ (8 : Int32).toInt ≤ 60000 := by decide
  have s1 : ∀ {fs : List Value} {tl : AH} {k : Nat} {v : Value}, k < fs.length → okF 4 k v = true → stf (sc :: .inr (4, fs) :: tl) 1 4 k v = some (sc :: .inr (4, fs.set k v) :: tl) := fun hk ho => stf_app (h := [sc]) rfl (by decide) hk ho
  have a1 : RunM 53 [.ref 1] [sc, newO 4] = Run 53 25 [some (.ref 1), some (.ref 2), some (.ref 5), none] [] [sc, .inr (4, [.ref 2, .null, .null, .null, .null, .null, .int 0]), .inr (0, [.ref 3, .ref 4, .int 0, .int (-1), .int 0]), arI 1024 (flN 1024), arI 16 (fun _ => 0), .inr (3, [.ref 6, .int 0]), arI 64 (fun _ => 0)] := by
    simp only [e53, s53_0, s53_0n, s53_1]
    simp only [s53_4, s53_7, List.length_cons, List.length_nil, Nat.zero_add, Nat.reduceAdd, List.cons_append, List.nil_append]
    simp only [s53_8, Option.bind_some, Option.bind_none, Option.toList_some, Option.toList_none, List.nil_append, List.cons_append, ↓reduceIte, reduceCtorEq, cl1_i, cl1_r, cl1_n, cl1_0, cl1_J, okS_0, okS_1, okS_2, okS_3, okS_4, bB_0, bB_and, z_0, z_1, z_10, bB_t, bB_f, Bool.true_eq_false, Bool.false_eq_true, gT0, gT1, gT2, gT3, gT4, gT5, gT6, gF0, gF1, gF2, gF3, gF4, gS0, gS1, gC0, gC1, iT, iF, iS, iC, sT6_0, sT6_1, sF2, sF3, sF4_0, sF4_1, sS1, sC1, r1]
    simp only [s53_11, s53_11n, s53_12, s53_15, Option.bind_some, Option.bind_none, Option.toList_some, Option.toList_none, List.nil_append, List.cons_append, ↓reduceIte, reduceCtorEq, cl1_i, cl1_r, cl1_n, cl1_0, cl1_J, okS_0, okS_1, okS_2, okS_3, okS_4, bB_0, bB_and, z_0, z_1, z_10, bB_t, bB_f, Bool.true_eq_false, Bool.false_eq_true, gT0, gT1, gT2, gT3, gT4, gT5, gT6, gF0, gF1, gF2, gF3, gF4, gS0, gS1, gC0, gC1, iT, iF, iS, iC, sT6_0, sT6_1, sF2, sF3, sF4_0, sF4_1, sS1, sC1, List.length_cons, List.length_nil, Nat.zero_add, Nat.reduceAdd]
    simp only [s53_16, Option.bind_some, Option.bind_none, Option.toList_some, Option.toList_none, List.nil_append, List.cons_append, ↓reduceIte, reduceCtorEq, cl1_i, cl1_r, cl1_n, cl1_0, cl1_J, okS_0, okS_1, okS_2, okS_3, okS_4, bB_0, bB_and, z_0, z_1, z_10, bB_t, bB_f, Bool.true_eq_false, Bool.false_eq_true, gT0, gT1, gT2, gT3, gT4, gT5, gT6, gF0, gF1, gF2, gF3, gF4, gS0, gS1, gC0, gC1, iT, iF, iS, iC, sT6_0, sT6_1, sF2, sF3, sF4_0, sF4_1, sS1, sC1, r2]
    simp only [s53_19, s53_19n, s53_20, s53_20n, s53_21, s53_21n, Option.bind_some, Option.bind_none, Option.toList_some, Option.toList_none, List.nil_append, List.cons_append, ↓reduceIte, reduceCtorEq, cl1_i, cl1_r, cl1_n, cl1_0, cl1_J, okS_0, okS_1, okS_2, okS_3, okS_4, bB_0, bB_and, z_0, z_1, z_10, bB_t, bB_f, Bool.true_eq_false, Bool.false_eq_true, gT0, gT1, gT2, gT3, gT4, gT5, gT6, gF0, gF1, gF2, gF3, gF4, gS0, gS1, gC0, gC1, iT, iF, iS, iC, sT6_0, sT6_1, sF2, sF3, sF4_0, sF4_1, sS1, sC1]
    rw [s53_22, newO_4, s1 (Nat.le_of_ble_eq_true rfl) (okF_ref rfl rfl)]
    rfl
  have r3 : RunM 42 [.ref 11] [sc, .inr (4, [.ref 2, .ref 7, .ref 8, .ref 9, .ref 10, .null, .int 0]), .inr (0, [.ref 3, .ref 4, .int 0, .int (-1), .int 0]), arI 1024 (flN 1024), arI 16 (fun _ => 0), .inr (3, [.ref 6, .int 0]), arI 64 (fun _ => 0), .inl (.object (cName 1), 8, foq 0), arZ 8 (fun _ => 0), arZ 8 (fun _ => 0), arI 8 (fun _ => 0), newO 3] = some (none, [sc, .inr (4, [.ref 2, .ref 7, .ref 8, .ref 9, .ref 10, .null, .int 0]), .inr (0, [.ref 3, .ref 4, .int 0, .int (-1), .int 0]), arI 1024 (flN 1024), arI 16 (fun _ => 0), .inr (3, [.ref 6, .int 0]), arI 64 (fun _ => 0), .inl (.object (cName 1), 8, foq 0), arZ 8 (fun _ => 0), arZ 8 (fun _ => 0), arI 8 (fun _ => 0), .inr (3, [.ref 12, .int 0]), arI 64 (fun _ => 0)]) := c42 (h := [sc, .inr (4, [.ref 2, .ref 7, .ref 8, .ref 9, .ref 10, .null, .int 0]), .inr (0, [.ref 3, .ref 4, .int 0, .int (-1), .int 0]), arI 1024 (flN 1024), arI 16 (fun _ => 0), .inr (3, [.ref 6, .int 0]), arI 64 (fun _ => 0), .inl (.object (cName 1), 8, foq 0), arZ 8 (fun _ => 0), arZ 8 (fun _ => 0), arI 8 (fun _ => 0)]) rfl (by decide)
  have nf : newA (.object (cName 1)) (8 : Int32).toNatClampNeg = .inl (.object (cName 1), 8, foq 0) := by
    rw [foq_0]
    rfl
  have nz : newA .boolean (8 : Int32).toNatClampNeg = arZ 8 (fun _ => 0) := rfl
  have ni : newA .int (8 : Int32).toNatClampNeg = arI 8 (fun _ => 0) := rfl
  have a2 : Run 53 25 [some (.ref 1), some (.ref 2), some (.ref 5), none] [] [sc, .inr (4, [.ref 2, .null, .null, .null, .null, .null, .int 0]), .inr (0, [.ref 3, .ref 4, .int 0, .int (-1), .int 0]), arI 1024 (flN 1024), arI 16 (fun _ => 0), .inr (3, [.ref 6, .int 0]), arI 64 (fun _ => 0)] = Run 53 59 [some (.ref 1), some (.ref 2), some (.ref 5), none] [.ref 1] [sc, .inr (4, [.ref 2, .ref 7, .ref 8, .ref 9, .ref 10, .null, .int 0]), .inr (0, [.ref 3, .ref 4, .int 0, .int (-1), .int 0]), arI 1024 (flN 1024), arI 16 (fun _ => 0), .inr (3, [.ref 6, .int 0]), arI 64 (fun _ => 0), .inl (.object (cName 1), 8, foq 0), arZ 8 (fun _ => 0), arZ 8 (fun _ => 0), arI 8 (fun _ => 0)] := by
    simp only [s53_25, s53_25n, s53_26, s53_28 b8, nf, List.length_cons, List.length_nil, Nat.zero_add, Nat.reduceAdd, List.cons_append, List.nil_append]
    rw [s53_31, s1 (Nat.le_of_ble_eq_true rfl) (okF_ref rfl rfl)]
    simp only [Option.bind_some, List.set_cons_zero, List.set_cons_succ, s53_34, s53_34n, s53_35, s53_37 b8, nz, List.length_cons, List.length_nil, Nat.zero_add, Nat.reduceAdd, List.cons_append, List.nil_append]
    rw [s53_39, s1 (Nat.le_of_ble_eq_true rfl) (okF_ref rfl rfl)]
    simp only [Option.bind_some, List.set_cons_zero, List.set_cons_succ, s53_42, s53_42n, s53_43, s53_45 b8, nz, List.length_cons, List.length_nil, Nat.zero_add, Nat.reduceAdd, List.cons_append, List.nil_append]
    rw [s53_47, s1 (Nat.le_of_ble_eq_true rfl) (okF_ref rfl rfl)]
    simp only [Option.bind_some, List.set_cons_zero, List.set_cons_succ, s53_50, s53_50n, s53_51, s53_53 b8, ni, List.length_cons, List.length_nil, Nat.zero_add, Nat.reduceAdd, List.cons_append, List.nil_append]
    rw [s53_55, s1 (Nat.le_of_ble_eq_true rfl) (okF_ref rfl rfl)]
    simp only [Option.bind_some, List.set_cons_zero, List.set_cons_succ, s53_58, s53_58n]
  have hlp := c53_loop (sc := sc) 8 0 rfl
  rw [nI_0] at hlp
  rw [a1, a2, ← b13_hp, ← hlp]
  simp only [s53_59, s53_62, List.length_cons, List.length_nil, Nat.zero_add, Nat.reduceAdd, List.cons_append, List.nil_append]
  simp only [s53_63, Option.bind_some, Option.bind_none, Option.toList_some, Option.toList_none, List.nil_append, List.cons_append, ↓reduceIte, reduceCtorEq, cl1_i, cl1_r, cl1_n, cl1_0, cl1_J, okS_0, okS_1, okS_2, okS_3, okS_4, bB_0, bB_and, z_0, z_1, z_10, bB_t, bB_f, Bool.true_eq_false, Bool.false_eq_true, gT0, gT1, gT2, gT3, gT4, gT5, gT6, gF0, gF1, gF2, gF3, gF4, gS0, gS1, gC0, gC1, iT, iF, iS, iC, sT6_0, sT6_1, sF2, sF3, sF4_0, sF4_1, sS1, sC1, r3]
  rw [s53_66, s1 (Nat.le_of_ble_eq_true rfl) (okF_ref rfl rfl)]
  simp only [Option.bind_some, List.set_cons_zero, List.set_cons_succ, s53_69, s53_69n, s53_70]
  rw [s53_71, s1 (Nat.le_of_ble_eq_true rfl) (okF_bool rfl (Or.inl rfl))]
  simp only [Option.bind_some, List.set_cons_zero, List.set_cons_succ, s53_74, s53_75, Option.bind_some, Option.bind_none, Option.toList_some, Option.toList_none, List.nil_append, List.cons_append, ↓reduceIte, reduceCtorEq, cl1_i, cl1_r, cl1_n, cl1_0, cl1_J, okS_0, okS_1, okS_2, okS_3, okS_4, bB_0, bB_and, z_0, z_1, z_10, bB_t, bB_f, Bool.true_eq_false, Bool.false_eq_true, gT0, gT1, gT2, gT3, gT4, gT5, gT6, gF0, gF1, gF2, gF3, gF4, gS0, gS1, gC0, gC1, iT, iF, iS, iC, sT6_0, sT6_1, sF2, sF3, sF4_0, sF4_1, sS1, sC1]
  rfl
