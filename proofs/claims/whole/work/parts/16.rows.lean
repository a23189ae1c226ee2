/-! ===== One row an instruction: what a run comes to, as equations ===== -/
section ROWS
variable {m pc pc' aux len : Nat} {L L' : AL} {S S' : List Value} {h h' : AH} {i : Instr}
theorem Run_none (hc : cd m pc = some (i, len, aux)) (hr : isRet m i S = none) (hk : isCall i aux S h = none) (hs : stp m i aux pc L S h = none) : Run m pc L S h = none := by
  cases h1 : Run m pc L S h with
  | none => rfl
  | some r =>
    obtain ⟨n, e⟩ := Run_iff.mp h1
    cases n with
    | zero => simp [exec] at e
    | succ n =>
      rw [exec, hc] at e
      simp only [hr, hk, hs] at e
      cases e
theorem Run_no (hc : cd m pc = some (i, len, aux)) (hr : isRet m i S = none) (hk : isCall i aux S h = none) {o : Option ASt} (hs : stp m i aux pc L S h = o) : Run m pc L S h = o.bind fun q => Run m q.1 q.2.1 q.2.2.1 q.2.2.2 := by
  cases o with
  | none => exact Run_none hc hr hk hs
  | some q =>
    obtain ⟨a, b, c, d⟩ := q
    exact Run_stp hc hr hk hs
theorem R_iconst {n : Int} {v : Int32} (hc : cd m pc = some (.iconst n, len, aux)) (hv : Int32.ofInt n = v) : Run m pc L S h = Run m (pc + 1) L (.int v :: S) h := by subst hv; exact Run_stp hc rfl rfl rfl
theorem R_bipush {n : Int} {v : Int32} (hc : cd m pc = some (.bipush n, len, aux)) (hv : (Int8.ofInt n).toInt32 = v) : Run m pc L S h = Run m (pc + 2) L (.int v :: S) h := by subst hv; exact Run_stp hc rfl rfl rfl
theorem R_sipush {n : Int} {v : Int32} (hc : cd m pc = some (.sipush n, len, aux)) (hv : (Int16.ofInt n).toInt32 = v) : Run m pc L S h = Run m (pc + 3) L (.int v :: S) h := by subst hv; exact Run_stp hc rfl rfl rfl
theorem R_lconst {n : Fin 2} {v : Int64} (hc : cd m pc = some (.lconst n, len, aux)) (hv : Int64.ofNat (n : Nat) = v) : Run m pc L S h = Run m (pc + 1) L (.long v :: S) h := by subst hv; exact Run_stp hc rfl rfl rfl
theorem R_ldc2 {x : Nat} {v : Int64} (hc : cd m pc = some (.ldc2_w x, len, aux)) (hv : kcs[aux]? = some v) : Run m pc L S h = Run m (pc + 3) L (.long v :: S) h := Run_stp hc rfl rfl (by simp only [stp, hv, Option.map_some])
theorem R_iinc {k : Nat} {n : Int} {x v : Int32} (hc : cd m pc = some (.iinc k n, len, aux)) (hL : L[k]? = some (some (.int x))) (hv : Int32.ofInt n = v) (hs : st1 L k (.int (x + v)) = some L') : Run m pc L S h = Run m (pc + 3) L' S h := by
  subst hv
  refine Run_stp hc rfl rfl ?_
  simp only [stp, hL, hs, Option.map_some]
theorem ite_flip {α : Type} {p q : Prop} [Decidable p] [Decidable q] (hpq : p ↔ ¬ q) (a b : α) : (if p then a else b) = if q then b else a := by
  by_cases h : q
  · rw [if_pos h, if_neg (fun hp => hpq.mp hp h)]
  · rw [if_neg h, if_pos (hpq.mpr h)]
theorem Run_if {c : Bool} {P : Prop} {dP : Decidable P} {t n : Nat} (hcP : c = true ↔ P) : Run m (if c = true then t else n) L S h = if P then Run m t L S h else Run m n L S h := by
  by_cases hp : P
  · rw [if_pos hp, if_pos (hcP.mpr hp)]
  · rw [if_neg hp, if_neg (fun q => hp (hcP.mp q))]
theorem R_if_eq {off : Int} {x : Int32} {t : Nat} (hc : cd m pc = some (.ifCond .eq off, len, aux)) (ht : jmp pc off = some t) : Run m pc L (.int x :: S) h = if x = 0 then Run m t L S h else Run m (pc + 3) L S h :=
  (Run_stp hc rfl rfl (by simp only [stp, br1, ht, Option.map_some])).trans (Run_if (c := cI .eq x 0) (by simp [cI]))
theorem R_if_ne {off : Int} {x : Int32} {t : Nat} (hc : cd m pc = some (.ifCond .ne off, len, aux)) (ht : jmp pc off = some t) : Run m pc L (.int x :: S) h = if x = 0 then Run m (pc + 3) L S h else Run m t L S h :=
  ((Run_stp hc rfl rfl (by simp only [stp, br1, ht, Option.map_some])).trans (Run_if (c := cI .ne x 0) (P := ¬ x = 0) (by simp [cI]))).trans (ite_flip Iff.rfl _ _)
theorem R_if_lt {off : Int} {x : Int32} {t : Nat} (hc : cd m pc = some (.ifCond .lt off, len, aux)) (ht : jmp pc off = some t) : Run m pc L (.int x :: S) h = if x < 0 then Run m t L S h else Run m (pc + 3) L S h :=
  (Run_stp hc rfl rfl (by simp only [stp, br1, ht, Option.map_some])).trans (Run_if (c := cI .lt x 0) (by simp [cI]))
theorem R_if_ge {off : Int} {x : Int32} {t : Nat} (hc : cd m pc = some (.ifCond .ge off, len, aux)) (ht : jmp pc off = some t) : Run m pc L (.int x :: S) h = if x < 0 then Run m (pc + 3) L S h else Run m t L S h :=
  ((Run_stp hc rfl rfl (by simp only [stp, br1, ht, Option.map_some])).trans (Run_if (c := cI .ge x 0) (P := 0 ≤ x) (by simp [cI]))).trans (ite_flip Int32.not_lt.symm _ _)
theorem R_if_gt {off : Int} {x : Int32} {t : Nat} (hc : cd m pc = some (.ifCond .gt off, len, aux)) (ht : jmp pc off = some t) : Run m pc L (.int x :: S) h = if 0 < x then Run m t L S h else Run m (pc + 3) L S h :=
  (Run_stp hc rfl rfl (by simp only [stp, br1, ht, Option.map_some])).trans (Run_if (c := cI .gt x 0) (by simp [cI]))
theorem R_if_le {off : Int} {x : Int32} {t : Nat} (hc : cd m pc = some (.ifCond .le off, len, aux)) (ht : jmp pc off = some t) : Run m pc L (.int x :: S) h = if 0 < x then Run m (pc + 3) L S h else Run m t L S h :=
  ((Run_stp hc rfl rfl (by simp only [stp, br1, ht, Option.map_some])).trans (Run_if (c := cI .le x 0) (P := x ≤ 0) (by simp [cI]))).trans (ite_flip Int32.not_lt.symm _ _)
theorem R_ic_eq {off : Int} {x y : Int32} {t : Nat} (hc : cd m pc = some (.if_icmp .eq off, len, aux)) (ht : jmp pc off = some t) : Run m pc L (.int y :: .int x :: S) h = if x = y then Run m t L S h else Run m (pc + 3) L S h :=
  (Run_stp hc rfl rfl (by simp only [stp, br2, ht, Option.map_some])).trans (Run_if (c := cI .eq x y) (by simp [cI]))
theorem R_ic_ne {off : Int} {x y : Int32} {t : Nat} (hc : cd m pc = some (.if_icmp .ne off, len, aux)) (ht : jmp pc off = some t) : Run m pc L (.int y :: .int x :: S) h = if x = y then Run m (pc + 3) L S h else Run m t L S h :=
  ((Run_stp hc rfl rfl (by simp only [stp, br2, ht, Option.map_some])).trans (Run_if (c := cI .ne x y) (P := ¬ x = y) (by simp [cI]))).trans (ite_flip Iff.rfl _ _)
theorem R_ic_lt {off : Int} {x y : Int32} {t : Nat} (hc : cd m pc = some (.if_icmp .lt off, len, aux)) (ht : jmp pc off = some t) : Run m pc L (.int y :: .int x :: S) h = if x < y then Run m t L S h else Run m (pc + 3) L S h :=
  (Run_stp hc rfl rfl (by simp only [stp, br2, ht, Option.map_some])).trans (Run_if (c := cI .lt x y) (by simp [cI]))
theorem R_ic_ge {off : Int} {x y : Int32} {t : Nat} (hc : cd m pc = some (.if_icmp .ge off, len, aux)) (ht : jmp pc off = some t) : Run m pc L (.int y :: .int x :: S) h = if x < y then Run m (pc + 3) L S h else Run m t L S h :=
  ((Run_stp hc rfl rfl (by simp only [stp, br2, ht, Option.map_some])).trans (Run_if (c := cI .ge x y) (P := y ≤ x) (by simp [cI]))).trans (ite_flip Int32.not_lt.symm _ _)
theorem R_ic_gt {off : Int} {x y : Int32} {t : Nat} (hc : cd m pc = some (.if_icmp .gt off, len, aux)) (ht : jmp pc off = some t) : Run m pc L (.int y :: .int x :: S) h = if y < x then Run m t L S h else Run m (pc + 3) L S h :=
  (Run_stp hc rfl rfl (by simp only [stp, br2, ht, Option.map_some])).trans (Run_if (c := cI .gt x y) (by simp [cI]))
theorem R_ic_le {off : Int} {x y : Int32} {t : Nat} (hc : cd m pc = some (.if_icmp .le off, len, aux)) (ht : jmp pc off = some t) : Run m pc L (.int y :: .int x :: S) h = if y < x then Run m (pc + 3) L S h else Run m t L S h :=
  ((Run_stp hc rfl rfl (by simp only [stp, br2, ht, Option.map_some])).trans (Run_if (c := cI .le x y) (P := x ≤ y) (by simp [cI]))).trans (ite_flip Int32.not_lt.symm _ _)
theorem R_goto {off : Int} {t : Nat} (hc : cd m pc = some (.goto off, len, aux)) (ht : jmp pc off = some t) : Run m pc L S h = Run m t L S h := Run_stp hc rfl rfl (by simp only [stp, ht, Option.map_some])
theorem R_ifnull_N {off : Int} {t : Nat} (hc : cd m pc = some (.ifnull off, len, aux)) (ht : jmp pc off = some t) : Run m pc L (.null :: S) h = Run m t L S h := Run_stp hc rfl rfl (by simp only [stp, ht, Option.map_some])
theorem R_ifnull_R {off : Int} {a : Nat} (hc : cd m pc = some (.ifnull off, len, aux)) : Run m pc L (.ref a :: S) h = Run m (pc + 3) L S h := Run_stp hc rfl rfl rfl
theorem R_ifnn_R {off : Int} {t a : Nat} (hc : cd m pc = some (.ifnonnull off, len, aux)) (ht : jmp pc off = some t) : Run m pc L (.ref a :: S) h = Run m t L S h := Run_stp hc rfl rfl (by simp only [stp, ht, Option.map_some])
theorem R_ifnn_N {off : Int} (hc : cd m pc = some (.ifnonnull off, len, aux)) : Run m pc L (.null :: S) h = Run m (pc + 3) L S h := Run_stp hc rfl rfl rfl
theorem R_getfield {x a : Nat} (hc : cd m pc = some (.getfield x, len, aux)) : Run m pc L (.ref a :: S) h = (fld h a (aux / 32) (aux % 32)).bind fun v => Run m (pc + 3) L (v :: S) h := by
  refine (Run_no hc rfl rfl rfl).trans ?_
  simp only [stp]
  cases fld h a (aux / 32) (aux % 32) <;> rfl
theorem R_putfield {x a : Nat} {v : Value} (hc : cd m pc = some (.putfield x, len, aux)) : Run m pc L (v :: .ref a :: S) h = (stf h a (aux / 32) (aux % 32) v).bind fun h' => Run m (pc + 3) L S h' := by
  refine (Run_no hc rfl rfl rfl).trans ?_
  simp only [stp]
  cases stf h a (aux / 32) (aux % 32) v <;> rfl
theorem R_iaload {a : Nat} {j : Int32} (hc : cd m pc = some (.iaload, len, aux)) : Run m pc L (.int j :: .ref a :: S) h = (ald h a .int j).bind fun v => Run m (pc + 1) L (v :: S) h := by
  refine (Run_no hc rfl rfl rfl).trans ?_
  simp only [stp]
  cases ald h a .int j <;> rfl
theorem R_baload {a : Nat} {j : Int32} (hc : cd m pc = some (.baload, len, aux)) : Run m pc L (.int j :: .ref a :: S) h = (ald h a .boolean j).bind fun v => Run m (pc + 1) L (v :: S) h := by
  refine (Run_no hc rfl rfl rfl).trans ?_
  simp only [stp]
  cases ald h a .boolean j <;> rfl
theorem R_laload {a : Nat} {j : Int32} (hc : cd m pc = some (.laload, len, aux)) : Run m pc L (.int j :: .ref a :: S) h = (ald h a .long j).bind fun v => Run m (pc + 1) L (v :: S) h := by
  refine (Run_no hc rfl rfl rfl).trans ?_
  simp only [stp]
  cases ald h a .long j <;> rfl
theorem R_aaload {a : Nat} {j : Int32} (hc : cd m pc = some (.aaload, len, aux)) : Run m pc L (.int j :: .ref a :: S) h = (ald h a (.object (cName 1)) j).bind fun v => Run m (pc + 1) L (v :: S) h := by
  refine (Run_no hc rfl rfl rfl).trans ?_
  simp only [stp]
  cases ald h a (.object (cName 1)) j <;> rfl
theorem R_iastore {a : Nat} {j x : Int32} (hc : cd m pc = some (.iastore, len, aux)) : Run m pc L (.int x :: .int j :: .ref a :: S) h = (ast h a .int j (.int x)).bind fun h' => Run m (pc + 1) L S h' := by
  refine (Run_no hc rfl rfl rfl).trans ?_
  simp only [stp]
  cases ast h a .int j (.int x) <;> rfl
theorem R_bastore {a : Nat} {j x : Int32} (hc : cd m pc = some (.bastore, len, aux)) : Run m pc L (.int x :: .int j :: .ref a :: S) h = (ast h a .boolean j (.int x)).bind fun h' => Run m (pc + 1) L S h' := by
  refine (Run_no hc rfl rfl rfl).trans ?_
  simp only [stp]
  cases ast h a .boolean j (.int x) <;> rfl
theorem R_lastore {a : Nat} {j : Int32} {x : Int64} (hc : cd m pc = some (.lastore, len, aux)) : Run m pc L (.long x :: .int j :: .ref a :: S) h = (ast h a .long j (.long x)).bind fun h' => Run m (pc + 1) L S h' := by
  refine (Run_no hc rfl rfl rfl).trans ?_
  simp only [stp]
  cases ast h a .long j (.long x) <;> rfl
theorem R_aastore {a v : Nat} {j : Int32} (hc : cd m pc = some (.aastore, len, aux)) (hO : isO h v 1 = true) : Run m pc L (.ref v :: .int j :: .ref a :: S) h = (ast h a (.object (cName 1)) j (.ref v)).bind fun h' => Run m (pc + 1) L S h' := by
  refine (Run_no hc rfl rfl rfl).trans ?_
  simp only [stp]
  rw [if_pos hO]
  cases ast h a (.object (cName 1)) j (.ref v) <;> rfl
theorem R_len {a : Nat} (hc : cd m pc = some (.arraylength, len, aux)) : Run m pc L (.ref a :: S) h = (aln h a).bind fun n => Run m (pc + 1) L (.int n :: S) h := by
  refine (Run_no hc rfl rfl rfl).trans ?_
  simp only [stp]
  cases aln h a <;> rfl
theorem R_newarray {t : ArrayType} {n : Int32} {k : Nat} (hc : cd m pc = some (.newarray t, len, aux)) (h0 : 0 ≤ n.toInt ∧ n.toInt ≤ 60000) (hk : n.toNatClampNeg = k) : Run m pc L (.int n :: S) h = Run m (pc + 2) L (.ref h.length :: S) (h ++ [newA (newarray.typeOf t) k]) := by
  subst hk
  refine Run_stp hc rfl rfl ?_
  simp only [stp]
  rw [if_pos h0]
theorem R_anewarray {x : Nat} {n : Int32} {k : Nat} (hc : cd m pc = some (.anewarray x, len, 1)) (h0 : 0 ≤ n.toInt ∧ n.toInt ≤ 60000) (hk : n.toNatClampNeg = k) : Run m pc L (.int n :: S) h = Run m (pc + 3) L (.ref h.length :: S) (h ++ [newA (.object (cName 1)) k]) := by
  subst hk
  refine Run_stp hc rfl rfl ?_
  simp only [stp]
  rw [if_pos ⟨h0.1, h0.2, trivial⟩]
theorem R_new {x : Nat} (hc : cd m pc = some (.new x, len, aux)) : Run m pc L S h = Run m (pc + 3) L (.ref h.length :: S) (h ++ [newO aux]) := Run_stp hc rfl rfl rfl
theorem R_objInit {x a : Nat} (hc : cd m pc = some (.invokespecial x, len, 999)) : Run m pc L [.ref a] h = Run m (pc + 3) L [] h := Run_stp hc rfl rfl rfl
theorem R_vret (hc : cd m pc = some (.return_, len, aux)) (hm : mRet m = none) : Run m pc L [] h = some (none, h) := Run_ret hc (by simp only [isRet]; rw [if_pos hm])
theorem R_iret {v : Int32} (hc : cd m pc = some (.ireturn, len, aux)) (hm : mRet m = some .int) : Run m pc L [.int v] h = some (some (.int v), h) := Run_ret hc (by simp only [isRet, hm]; rw [if_pos (by rfl)])
theorem R_zret {v : Int32} (hc : cd m pc = some (.ireturn, len, aux)) (hm : mRet m = some .boolean) (hv : v &&& 1 = v) : Run m pc L [.int v] h = some (some (.int v), h) := Run_ret hc (by simp only [isRet, hm]; rw [if_pos (by simp only [narrow, hv])])
theorem R_lret {v : Int64} (hc : cd m pc = some (.lreturn, len, aux)) (hm : mRet m = some .long) : Run m pc L [.long v] h = some (some (.long v), h) := Run_ret hc (by simp only [isRet]; rw [if_pos hm])
theorem R_aret {v : Value} (hc : cd m pc = some (.areturn, len, aux)) (hm : mRet m = some (.object (cName 1))) (hv : isR v = true) : Run m pc L [v] h = some (some v, h) := Run_ret hc (by simp only [isRet]; rw [if_pos ⟨hm, hv⟩])
/-- calls -/
def okS (S : List Value) : Bool := decide ((S.map fun v => v.category).sum ≤ 8)
theorem cat_le (v : Value) : v.category ≤ 2 := by cases v <;> simp [Value.category]
theorem okS_0 : okS [] = true := id rfl
theorem okS_1 (a : Value) : okS [a] = true := by have := cat_le a; simp [okS]; omega
theorem okS_2 (a b : Value) : okS [a, b] = true := by have := cat_le a; have := cat_le b; simp [okS]; omega
theorem okS_3 (a b c : Value) : okS [a, b, c] = true := by have := cat_le a; have := cat_le b; have := cat_le c; simp [okS]; omega
theorem okS_4 (a b c d : Value) : okS [a, b, c, d] = true := by have := cat_le a; have := cat_le b; have := cat_le c; have := cat_le d; simp [okS]; omega
theorem R_virt {x a n : Nat} {As rest : List Value} (hc : cd m pc = some (.invokevirtual x, len, aux)) (hn : mArgs aux = n) (hd : S.drop n = .ref a :: rest) (hA : (S.take n).reverse = As) (hl : (len0 (.ref a :: As)).length ≤ mMax aux) (hO : isO h a (mCls aux) = true) (hS : okS rest = true) : Run m pc L S h = (RunM aux (.ref a :: As) h).bind fun q => Run m (pc + 3) L (q.1.toList ++ rest) q.2 := by
  subst hn; subst hA
  refine Run_call hc rfl ?_
  simp only [isCall, hd]
  rw [if_pos ⟨hO, of_decide_eq_true hS, hl⟩]
theorem R_spec {x a n : Nat} {As rest : List Value} (hc : cd m pc = some (.invokespecial x, len, aux)) (h9 : aux ≠ 999) (hn : mArgs aux = n) (hd : S.drop n = .ref a :: rest) (hA : (S.take n).reverse = As) (hl : (len0 (.ref a :: As)).length ≤ mMax aux) (hS : okS rest = true) : Run m pc L S h = (RunM aux (.ref a :: As) h).bind fun q => Run m (pc + 3) L (q.1.toList ++ rest) q.2 := by
  subst hn; subst hA
  refine Run_call hc rfl ?_
  simp only [isCall, hd]
  rw [if_neg h9, if_pos ⟨of_decide_eq_true hS, hl⟩]
theorem R_stat {x n : Nat} {As rest : List Value} (hc : cd m pc = some (.invokestatic x, len, aux)) (hn : mArgs aux = n) (h9 : n ≤ S.length) (hd : S.drop n = rest) (hA : (S.take n).reverse = As) (hl : (len0 As).length ≤ mMax aux) (hS : okS rest = true) : Run m pc L S h = (RunM aux As h).bind fun q => Run m (pc + 3) L (q.1.toList ++ rest) q.2 := by
  subst hn; subst hA; subst hd
  refine Run_call hc rfl ?_
  simp only [isCall]
  rw [if_pos ⟨h9, of_decide_eq_true hS, hl⟩]
end ROWS
