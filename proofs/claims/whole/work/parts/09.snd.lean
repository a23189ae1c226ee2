/-! ===== The JVM does what the small machine does: plain steps ===== -/
def KU (D : va_G) (U : State) : Prop := va_K D vwCl [] U ∧ (∀ w ∈ nwS, va_Nw w U) ∧ va_AO (cName 1) U
def Cx (D : va_G) (p : Program) (R : Room) (s : State) (mm : MethodId) (args : Array Value) (meth : Method) (c : Code) (m : Nat) : Prop :=
  p.tables.exec = Jvm.exec ∧ c.code = mBytes m ∧ c.maxLocals = mMax m ∧ s.vm.findClass (cName (mCls m)) = some mm.cls ∧ (∀ w ∈ gw, w.before args s = true) ∧ KU D s ∧ (mName m = "<init>" → meth.name = "<init>") ∧ meth.sig.returnType = mRet m ∧ meth.locks = false ∧ mFr m ≤ R.frames ∧ mLo m ≤ R.locals ∧ m < 131
/-- from every state that the abstract one stands for, the JVM comes to Q -/
def Go (p : Program) (l : Launch) (e : Env) (R : Room) (s : State) (mm : MethodId) (args : Array Value) (below : List Frame) (meth : Method) (c : Code) (Q : State → Prop) (D : va_G) (N b m c0 s0 pc : Nat) (L : AL) (S : List Value) (h : AH) : Prop :=
  ∀ (ls : Array Slot) (H : Heap) (locs : List Loc) (cells slots : Nat), Rel D s N b h H → lR N b (mMax m) ls L → (∀ q ∈ locs, N ≤ q.base) → cells + c0 = h.length → slots + s0 = sl h → W p l e R s mm args below meth c H locs cells slots Q (F0 mm pc ls (S.map (cv N b)))
theorem ld_spec {L L' : AL} {k q pc' : Nat} {S S' : List Value} {h h' : AH} {ok : Value → Bool} (hs : ld L k q S h ok = some (pc', L', S', h')) : ∃ v, L[k]? = some (some v) ∧ ok v = true ∧ pc' = q ∧ L' = L ∧ S' = v :: S ∧ h' = h := by
  unfold ld at hs
  split at hs
  · rename_i v hv
    split at hs
    · rename_i ho
      simp only [Option.some.injEq, Prod.mk.injEq] at hs
      exact ⟨v, hv, ho, hs.1.symm, hs.2.1.symm, hs.2.2.1.symm, hs.2.2.2.symm⟩
    · cases hs
  · cases hs
theorem sto_spec {L L' : AL} {k q pc' : Nat} {S S' : List Value} {h h' : AH} {ok : Value → Bool} (hs : sto L k q S h ok = some (pc', L', S', h')) : ∃ v, S = v :: S' ∧ ok v = true ∧ st1 L k v = some L' ∧ pc' = q ∧ h' = h := by
  unfold sto at hs
  split at hs
  · rename_i v S0
    split at hs
    · rename_i ho
      obtain ⟨L0, h1, h2⟩ := Option.map_eq_some_iff.mp hs
      simp only [Prod.mk.injEq] at h2
      obtain ⟨e1, e2, e3, e4⟩ := h2
      subst e1; subst e2; subst e3; subst e4
      exact ⟨v, rfl, ho, h1, rfl, rfl⟩
    · cases hs
  · cases hs
theorem stoJ_spec {L L' : AL} {k q pc' : Nat} {S S' : List Value} {h h' : AH} (hs : stoJ L k q S h = some (pc', L', S', h')) : ∃ x, S = .long x :: S' ∧ st2 L k (.long x) = some L' ∧ pc' = q ∧ h' = h := by
  unfold stoJ at hs
  split at hs
  · rename_i x S0
    obtain ⟨L0, h1, h2⟩ := Option.map_eq_some_iff.mp hs
    simp only [Prod.mk.injEq] at h2
    obtain ⟨e1, e2, e3, e4⟩ := h2
    subst e1; subst e2; subst e3; subst e4
    exact ⟨x, rfl, h1, rfl, rfl⟩
  · cases hs
theorem bin_spec {f : Int32 → Int32 → Int32} {q pc' : Nat} {L L' : AL} {S S' : List Value} {h h' : AH} (hs : bin f q L S h = some (pc', L', S', h')) : ∃ x y S0, S = .int y :: .int x :: S0 ∧ pc' = q ∧ L' = L ∧ S' = .int (f x y) :: S0 ∧ h' = h := by
  unfold bin at hs
  split at hs
  · simp only [Option.some.injEq, Prod.mk.injEq] at hs
    exact ⟨_, _, _, rfl, hs.1.symm, hs.2.1.symm, hs.2.2.1.symm, hs.2.2.2.symm⟩
  · cases hs
theorem binJ_spec {f : Int64 → Int64 → Int64} {q pc' : Nat} {L L' : AL} {S S' : List Value} {h h' : AH} (hs : binJ f q L S h = some (pc', L', S', h')) : ∃ x y S0, S = .long y :: .long x :: S0 ∧ pc' = q ∧ L' = L ∧ S' = .long (f x y) :: S0 ∧ h' = h := by
  unfold binJ at hs
  split at hs
  · simp only [Option.some.injEq, Prod.mk.injEq] at hs
    exact ⟨_, _, _, rfl, hs.1.symm, hs.2.1.symm, hs.2.2.1.symm, hs.2.2.2.symm⟩
  · cases hs
theorem shJ_spec {f : Int64 → Int32 → Int64} {q pc' : Nat} {L L' : AL} {S S' : List Value} {h h' : AH} (hs : shJ f q L S h = some (pc', L', S', h')) : ∃ x y S0, S = .int y :: .long x :: S0 ∧ pc' = q ∧ L' = L ∧ S' = .long (f x y) :: S0 ∧ h' = h := by
  unfold shJ at hs
  split at hs
  · simp only [Option.some.injEq, Prod.mk.injEq] at hs
    exact ⟨_, _, _, rfl, hs.1.symm, hs.2.1.symm, hs.2.2.1.symm, hs.2.2.2.symm⟩
  · cases hs
theorem jmp_spec {pc t : Nat} {off : Int} (h : jmp pc off = some t) : (pc : Int) + off = (t : Int) := by
  unfold jmp at h
  split at h
  · rename_i n e
    cases h
    exact e
  · cases h
theorem inB_spec {i : Int32} {n : Nat} (h : inB i n = true) : ¬ (i < 0 ∨ n ≤ i.toNatClampNeg) ∧ i.toNatClampNeg < n := by
  unfold inB at h
  rw [Bool.and_eq_true, decide_eq_true_eq, decide_eq_true_eq] at h
  have h1 : vp_in i n := vp_in_iff.mpr h
  exact ⟨h1, Nat.not_le.mp fun q => h1 (Or.inr q)⟩
theorem fld_spec {h : AH} {a ci k : Nat} {v : Value} (hs : fld h a ci k = some v) : ∃ fs, h[a]? = some (.inr (ci, fs)) ∧ fs[k]? = some v := by
  unfold fld at hs
  split at hs
  · rename_i cc fs e
    split at hs
    · rename_i q
      subst q
      exact ⟨fs, e, hs⟩
    · cases hs
  · cases hs
theorem stf_spec {h h' : AH} {a ci k : Nat} {v : Value} (hs : stf h a ci k v = some h') : ∃ fs, h[a]? = some (.inr (ci, fs)) ∧ a ≠ 0 ∧ k < fs.length ∧ fits (fty ci k) v = true ∧ narrow (fty ci k) v = v ∧ h' = h.set a (.inr (ci, fs.set k v)) := by
  unfold stf at hs
  split at hs
  · rename_i cc fs e
    split at hs
    · rename_i q
      obtain ⟨q0, q1, q2, q3⟩ := q
      subst q1
      unfold okF at q3
      rw [Bool.and_eq_true, decide_eq_true_eq] at q3
      exact ⟨fs, e, q0, q2, q3.1, q3.2, (Option.some.inj hs).symm⟩
    · cases hs
  · cases hs
theorem ald_spec {h : AH} {a : Nat} {ty : FieldType} {i : Int32} {v : Value} (hs : ald h a ty i = some v) : ∃ n f, h[a]? = some (.inl (ty, n, f)) ∧ inB i n = true ∧ v = f i.toNatClampNeg := by
  unfold ald at hs
  split at hs
  · rename_i t n f e
    split at hs
    · rename_i q
      obtain ⟨q1, q2⟩ := q
      subst q1
      exact ⟨n, f, e, q2, (Option.some.inj hs).symm⟩
    · cases hs
  · cases hs
theorem ast_spec {h h' : AH} {a : Nat} {ty : FieldType} {i : Int32} {v : Value} (hs : ast h a ty i v = some h') : ∃ n f, h[a]? = some (.inl (ty, n, f)) ∧ a ≠ 0 ∧ inB i n = true ∧ narrow ty v = v ∧ h' = h.set a (.inl (ty, n, updV f i.toNatClampNeg v)) := by
  unfold ast at hs
  split at hs
  · rename_i t n f e
    split at hs
    · rename_i q
      obtain ⟨q0, q1, q2, q3⟩ := q
      subst q1
      exact ⟨n, f, e, q0, q2, q3, (Option.some.inj hs).symm⟩
    · cases hs
  · cases hs
theorem aln_spec {h : AH} {a : Nat} {n : Int32} (hs : aln h a = some n) : ∃ ty k f, h[a]? = some (.inl (ty, k, f)) ∧ n = Int32.ofNat k := by
  unfold aln at hs
  split at hs
  · rename_i t k f e
    exact ⟨t, k, f, e, (Option.some.inj hs).symm⟩
  · cases hs
theorem isO_spec {h : AH} {a ci : Nat} (hs : isO h a ci = true) : ∃ fs, h[a]? = some (.inr (ci, fs)) := by
  unfold isO at hs
  split at hs
  · rename_i cc fs e
    rw [decide_eq_true_eq] at hs
    subst hs
    exact ⟨fs, e⟩
  · cases hs
/-! what the class tables say, for every class number -/
theorem cl_ok : ∀ (ci : Nat) (r : vw_C), vwCl[ci]? = some r → ci < 6 ∧ (∀ w ∈ u_ws r.1 r.2.1 r.2.2, w ∈ gw) ∧ (∀ k, k < r.2.2 → parseFieldDescriptor (r.2.1 k).2.2.1 = some (fty ci k)) ∧ (∀ x, x < r.2.2 → ∀ y, y < r.2.2 → x ≠ y → (r.2.1 x).2.1 ≠ (r.2.1 y).2.1) ∧ cT ci = r.2.1 ∧ nSl ci = r.2.2 ∧ cName ci = r.1
  | 0, r, h => by cases h; exact ⟨by decide, lay0, tyX0_ok, nmX0, rfl, rfl, rfl⟩
  | 1, r, h => by cases h; exact ⟨by decide, lay1, tyX1_ok, nmX1, rfl, rfl, rfl⟩
  | 2, r, h => by cases h; exact ⟨by decide, lay2, tyX2_ok, nmX2, rfl, rfl, rfl⟩
  | 3, r, h => by cases h; exact ⟨by decide, lay3, tyX3_ok, nmX3, rfl, rfl, rfl⟩
  | 4, r, h => by cases h; exact ⟨by decide, lay4, tyX4_ok, nmX4, rfl, rfl, rfl⟩
  | 5, r, h => by cases h; exact ⟨by decide, lay5, tyX5_ok, nmX5, rfl, rfl, rfl⟩
  | k + 6, r, h => by simp [vwCl] at h
theorem cl_at : ∀ ci, ci < 6 → ∃ r : vw_C, vwCl[ci]? = some r
  | 0, _ => ⟨_, rfl⟩
  | 1, _ => ⟨_, rfl⟩
  | 2, _ => ⟨_, rfl⟩
  | 3, _ => ⟨_, rfl⟩
  | 4, _ => ⟨_, rfl⟩
  | 5, _ => ⟨_, rfl⟩
  | k + 6, h => absurd h (by omega)
theorem inT_spec {t : List (Nat × Nat × Nat × Nat)} {o x a : Nat} (h : inT t o x a = true) : ∃ q ∈ t, q.1 = o ∧ q.2.1 = x ∧ q.2.2.1 = a := by
  unfold inT at h
  obtain ⟨q, hq, h2⟩ := List.any_eq_true.mp h
  simp only [Bool.and_eq_true, beq_iff_eq] at h2
  exact ⟨q, hq, h2.1, h2.2.1, h2.2.2⟩
theorem FL_in {o x a : Nat} (h : inT FLt o x a = true) : fCond o x a ∈ gw := by
  obtain ⟨q, hq, rfl, rfl, rfl⟩ := inT_spec h
  exact gw_of (List.all_eq_true.mp FLt_ok q hq)
theorem FN_in {o x a : Nat} (h : inT FNt o x a = true) : nCond o x a ∈ nwS := by
  obtain ⟨q, hq, rfl, rfl, rfl⟩ := inT_spec h
  exact List.mem_map.mpr ⟨q, hq, rfl⟩
theorem ML_in {o x a : Nat} (h : inT MLt o x a = true) : Cond.methodLink (cName o) x (mY a) ∈ gw := by
  obtain ⟨q, hq, rfl, rfl, rfl⟩ := inT_spec h
  exact gw_of (List.all_eq_true.mp MLt_ok q hq)
theorem CL_in {o x a : Nat} (h : inT CLt o x a = true) : Cond.classLink (cName o) x (cName a) ∈ gw := by
  obtain ⟨q, hq, rfl, rfl, rfl⟩ := inT_spec h
  exact gw_of (List.all_eq_true.mp CLt_ok q hq)
theorem KL_in {o x a : Nat} (h : inT KLt o x a = true) : Cond.constantLong (cName o) x (kcs.getD a 0) ∈ gw := by
  obtain ⟨q, hq, rfl, rfl, rfl⟩ := inT_spec h
  exact gw_of (List.all_eq_true.mp KLt_ok q hq)
theorem one_P {D : va_G} {N b a ci : Nat} {fs : List Value} {H : Heap} (h : obAt D N b a ci fs H) : va_P D vwCl [(a, .inr (ci, fs.map (cv N b)))] H := by
  intro k q hk
  have hz : k < 1 := (List.getElem?_eq_some_iff.mp hk).1
  rw [show k = 0 by omega] at hk
  cases hk
  obtain ⟨r, h1, h2, h3⟩ := h
  exact ⟨r, h1, h3⟩
theorem cl_own : ∀ (ci : Nat) (r : vw_C), vwCl[ci]? = some r → ∀ k, k < r.2.2 → (r.2.1 k).1 = r.1 ∨ (r.2.1 k).2.2.2 = false
  | 0, r, h => by cases h; decide +kernel
  | 1, r, h => by cases h; decide +kernel
  | 2, r, h => by cases h; decide +kernel
  | 3, r, h => by cases h; decide +kernel
  | 4, r, h => by cases h; decide +kernel
  | 5, r, h => by cases h; decide +kernel
  | k + 6, r, h => by simp [vwCl] at h
