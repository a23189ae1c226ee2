/-! ===== A small machine over numbers: locals and stack as lists, the heap as the list of the cells that the law makes (cell 0 stands for the script). 'exec' runs a method's code list; part 06 shows that the JVM does the same. ===== -/
/-- a cell: an array (type of its elements, length, contents) or an object (class number, fields) -/
abbrev AC : Type := (FieldType × Nat × (Nat → Value)) ⊕ (Nat × List Value)
abbrev AH : Type := List AC
abbrev AL : Type := List (Option Value)
abbrev ARes : Type := Option Value × AH
def inB (i : Int32) (n : Nat) : Bool := decide (0 ≤ i.toInt) && decide (i.toInt < n)
/-- a long before the stored place is lost -/
def cl1 : Option Value → Option Value
  | some (.long _) => none
  | some (.double _) => none
  | o => o
def st1 : AL → Nat → Value → Option AL
  | [], _, _ => none
  | _ :: t, 0, v => some (some v :: t)
  | o :: t, 1, v => match t with
    | [] => none
    | _ :: t' => some (cl1 o :: some v :: t')
  | o :: t, i + 2, v => (st1 t (i + 1) v).map (o :: ·)
def st2 : AL → Nat → Value → Option AL
  | [], _, _ => none
  | _ :: t, 0, v => match t with
    | [] => none
    | _ :: t' => some (some v :: none :: t')
  | o :: t, 1, v => match t with
    | _ :: _ :: t' => some (cl1 o :: some v :: none :: t')
    | _ => none
  | o :: t, i + 2, v => (st2 t (i + 1) v).map (o :: ·)
/-- a method's first locals -/
def len0 : List Value → AL
  | [] => []
  | v :: vs => if v.category = 2 then some v :: none :: len0 vs else some v :: len0 vs
def ent (m : Nat) (as : List Value) : AL := len0 as ++ List.replicate (mMax m - (len0 as).length) none
def jmp (pc : Nat) (off : Int) : Option Nat := match (pc : Int) + off with
  | .ofNat n => some n
  | _ => none
def cI (cn : Jvm.ClassFile.Cond) (x y : Int32) : Bool := match cn with
  | .eq => decide (x = y)
  | .ne => !decide (x = y)
  | .lt => decide (x < y)
  | .ge => decide (y ≤ x)
  | .gt => decide (y < x)
  | .le => decide (x ≤ y)
/-- a cell may be written but for the script -/
def hset (h : AH) (a : Nat) (e : AC) : AH := h.set a e
def fld (h : AH) (a ci k : Nat) : Option Value := match h[a]? with
  | some (.inr (c, fs)) => if c = ci then fs[k]? else none
  | _ => none
def okF (ci k : Nat) (v : Value) : Bool := fits (fty ci k) v && decide (narrow (fty ci k) v = v)
def stf (h : AH) (a ci k : Nat) (v : Value) : Option AH := match h[a]? with
  | some (.inr (c, fs)) => if a ≠ 0 ∧ c = ci ∧ k < fs.length ∧ okF ci k v = true then some (h.set a (.inr (c, fs.set k v))) else none
  | _ => none
def ald (h : AH) (a : Nat) (ty : FieldType) (i : Int32) : Option Value := match h[a]? with
  | some (.inl (t, n, f)) => if t = ty ∧ inB i n = true then some (f i.toNatClampNeg) else none
  | _ => none
def ast (h : AH) (a : Nat) (ty : FieldType) (i : Int32) (v : Value) : Option AH := match h[a]? with
  | some (.inl (t, n, f)) => if a ≠ 0 ∧ t = ty ∧ inB i n = true ∧ narrow ty v = v then some (h.set a (.inl (t, n, updV f i.toNatClampNeg v))) else none
  | _ => none
def aln (h : AH) (a : Nat) : Option Int32 := match h[a]? with
  | some (.inl (_, n, _)) => some (Int32.ofNat n)
  | _ => none
def isO (h : AH) (a ci : Nat) : Bool := match h[a]? with
  | some (.inr (c, _)) => decide (c = ci)
  | _ => false
def newO (ci : Nat) : AC := .inr (ci, (List.range (nSl ci)).map fun k => defaultValue (fty ci k))
def newA (ty : FieldType) (n : Nat) : AC := .inl (ty, n, fun _ => defaultValue ty)
abbrev ASt : Type := Nat × AL × List Value × AH
def psh (pc : Nat) (L : AL) (S : List Value) (h : AH) (v : Value) : Option ASt := some (pc, L, v :: S, h)
def ld (L : AL) (k pc : Nat) (S : List Value) (h : AH) (ok : Value → Bool) : Option ASt := match L[k]? with
  | some (some v) => if ok v = true then some (pc, L, v :: S, h) else none
  | _ => none
def isI : Value → Bool
  | .int _ => true
  | _ => false
def isJ : Value → Bool
  | .long _ => true
  | _ => false
def isR : Value → Bool
  | .ref _ => true
  | .null => true
  | _ => false
def sto (L : AL) (k pc : Nat) (S : List Value) (h : AH) (ok : Value → Bool) : Option ASt := match S with
  | v :: S' => if ok v = true then (st1 L k v).map (fun L' => (pc, L', S', h)) else none
  | _ => none
def stoJ (L : AL) (k pc : Nat) (S : List Value) (h : AH) : Option ASt := match S with
  | .long x :: S' => (st2 L k (.long x)).map (fun L' => (pc, L', S', h))
  | _ => none
def bin (f : Int32 → Int32 → Int32) (pc : Nat) (L : AL) (S : List Value) (h : AH) : Option ASt := match S with
  | .int y :: .int x :: S' => some (pc, L, .int (f x y) :: S', h)
  | _ => none
def binJ (f : Int64 → Int64 → Int64) (pc : Nat) (L : AL) (S : List Value) (h : AH) : Option ASt := match S with
  | .long y :: .long x :: S' => some (pc, L, .long (f x y) :: S', h)
  | _ => none
def shJ (f : Int64 → Int32 → Int64) (pc : Nat) (L : AL) (S : List Value) (h : AH) : Option ASt := match S with
  | .int y :: .long x :: S' => some (pc, L, .long (f x y) :: S', h)
  | _ => none
def br1 (cn : Jvm.ClassFile.Cond) (off : Int) (pc : Nat) (L : AL) (S : List Value) (h : AH) : Option ASt := match S with
  | .int x :: S' => (jmp pc off).map fun t => (if cI cn x 0 = true then t else pc + 3, L, S', h)
  | _ => none
def br2 (cn : Jvm.ClassFile.Cond) (off : Int) (pc : Nat) (L : AL) (S : List Value) (h : AH) : Option ASt := match S with
  | .int y :: .int x :: S' => (jmp pc off).map fun t => (if cI cn x y = true then t else pc + 3, L, S', h)
  | _ => none
def stp (m : Nat) (i : Instr) (aux pc : Nat) (L : AL) (S : List Value) (h : AH) : Option ASt := match i with
  | .aconst_null => some (pc + 1, L, .null :: S, h)
  | .iconst n => some (pc + 1, L, .int (Int32.ofInt n) :: S, h)
  | .bipush n => some (pc + 2, L, .int (Int8.ofInt n).toInt32 :: S, h)
  | .sipush n => some (pc + 3, L, .int (Int16.ofInt n).toInt32 :: S, h)
  | .lconst n => some (pc + 1, L, .long (Int64.ofNat (n : Nat)) :: S, h)
  | .ldc2_w _ => (kcs[aux]?).map fun v => (pc + 3, L, .long v :: S, h)
  | .iload k => ld L k (pc + 2) S h isI
  | .iload_n k => ld L k (pc + 1) S h isI
  | .lload k => ld L k (pc + 2) S h isJ
  | .lload_n k => ld L k (pc + 1) S h isJ
  | .aload k => ld L k (pc + 2) S h isR
  | .aload_n k => ld L k (pc + 1) S h isR
  | .istore k => sto L k (pc + 2) S h isI
  | .istore_n k => sto L k (pc + 1) S h isI
  | .astore k => sto L k (pc + 2) S h isR
  | .astore_n k => sto L k (pc + 1) S h isR
  | .lstore k => stoJ L k (pc + 2) S h
  | .lstore_n k => stoJ L k (pc + 1) S h
  | .iinc k n => match L[k]? with
    | some (some (.int x)) => (st1 L k (.int (x + Int32.ofInt n))).map fun L' => (pc + 3, L', S, h)
    | _ => none
  | .iadd => bin (fun x y => x + y) (pc + 1) L S h
  | .isub => bin (fun x y => x - y) (pc + 1) L S h
  | .imul => bin (fun x y => x * y) (pc + 1) L S h
  | .iand => bin (fun x y => x &&& y) (pc + 1) L S h
  | .ior => bin (fun x y => x ||| y) (pc + 1) L S h
  | .ixor => bin (fun x y => x ^^^ y) (pc + 1) L S h
  | .ishl => bin (fun x y => x <<< (y &&& 31)) (pc + 1) L S h
  | .ishr => bin (fun x y => x >>> (y &&& 31)) (pc + 1) L S h
  | .land => binJ (fun x y => x &&& y) (pc + 1) L S h
  | .lor => binJ (fun x y => x ||| y) (pc + 1) L S h
  | .lshl => shJ (fun x y => x <<< (y.toInt64 &&& 63)) (pc + 1) L S h
  | .lshr => shJ (fun x y => x >>> (y.toInt64 &&& 63)) (pc + 1) L S h
  | .lushr => shJ (fun x y => (x.toUInt64 >>> (y.toInt64.toUInt64 &&& Int64.toUInt64 63)).toInt64) (pc + 1) L S h
  | .i2l => match S with
    | .int x :: S' => some (pc + 1, L, .long x.toInt64 :: S', h)
    | _ => none
  | .l2i => match S with
    | .long x :: S' => some (pc + 1, L, .int x.toInt32 :: S', h)
    | _ => none
  | .lcmp => match S with
    | .long y :: .long x :: S' => some (pc + 1, L, .int (lg_cmp x y) :: S', h)
    | _ => none
  | .dup => match S with
    | v :: S' => if v.category = 1 then some (pc + 1, L, v :: v :: S', h) else none
    | _ => none
  | .dup2 => match S with
    | v :: w :: S' => if v.category = 1 ∧ w.category = 1 then some (pc + 1, L, v :: w :: v :: w :: S', h) else none
    | _ => none
  | .ifCond cn off => br1 cn off pc L S h
  | .if_icmp cn off => br2 cn off pc L S h
  | .ifnull off => match S with
    | .null :: S' => (jmp pc off).map fun t => (t, L, S', h)
    | .ref _ :: S' => some (pc + 3, L, S', h)
    | _ => none
  | .ifnonnull off => match S with
    | .ref _ :: S' => (jmp pc off).map fun t => (t, L, S', h)
    | .null :: S' => some (pc + 3, L, S', h)
    | _ => none
  | .goto off => (jmp pc off).map fun t => (t, L, S, h)
  | .tableswitch d lo hi offs => match S with
    | .int x :: S' => if x.toInt < lo ∨ hi < x.toInt then (jmp pc d).map fun t => (t, L, S', h) else match offs[(x.toInt - lo).toNat]? with
      | some o => (jmp pc o).map fun t => (t, L, S', h)
      | none => none
    | _ => none
  | .getfield _ => match S with
    | .ref a :: S' => (fld h a (aux / 32) (aux % 32)).map fun v => (pc + 3, L, v :: S', h)
    | _ => none
  | .putfield _ => match S with
    | v :: .ref a :: S' => (stf h a (aux / 32) (aux % 32) v).map fun h' => (pc + 3, L, S', h')
    | _ => none
  | .iaload => match S with
    | .int i :: .ref a :: S' => (ald h a .int i).map fun v => (pc + 1, L, v :: S', h)
    | _ => none
  | .baload => match S with
    | .int i :: .ref a :: S' => (ald h a .boolean i).map fun v => (pc + 1, L, v :: S', h)
    | _ => none
  | .laload => match S with
    | .int i :: .ref a :: S' => (ald h a .long i).map fun v => (pc + 1, L, v :: S', h)
    | _ => none
  | .aaload => match S with
    | .int i :: .ref a :: S' => (ald h a (.object (cName 1)) i).map fun v => (pc + 1, L, v :: S', h)
    | _ => none
  | .iastore => match S with
    | .int x :: .int i :: .ref a :: S' => (ast h a .int i (.int x)).map fun h' => (pc + 1, L, S', h')
    | _ => none
  | .bastore => match S with
    | .int x :: .int i :: .ref a :: S' => (ast h a .boolean i (.int x)).map fun h' => (pc + 1, L, S', h')
    | _ => none
  | .lastore => match S with
    | .long x :: .int i :: .ref a :: S' => (ast h a .long i (.long x)).map fun h' => (pc + 1, L, S', h')
    | _ => none
  | .aastore => match S with
    | .ref v :: .int i :: .ref a :: S' => if isO h v 1 = true then (ast h a (.object (cName 1)) i (.ref v)).map fun h' => (pc + 1, L, S', h') else none
    | _ => none
  | .arraylength => match S with
    | .ref a :: S' => (aln h a).map fun n => (pc + 1, L, .int n :: S', h)
    | _ => none
  | .newarray t => match S with
    | .int n :: S' => if 0 ≤ n.toInt ∧ n.toInt ≤ 60000 then some (pc + 2, L, .ref h.length :: S', h ++ [newA (newarray.typeOf t) n.toNatClampNeg]) else none
    | _ => none
  | .anewarray _ => match S with
    | .int n :: S' => if 0 ≤ n.toInt ∧ n.toInt ≤ 60000 ∧ aux = 1 then some (pc + 3, L, .ref h.length :: S', h ++ [newA (.object (cName 1)) n.toNatClampNeg]) else none
    | _ => none
  | .new _ => some (pc + 3, L, .ref h.length :: S, h ++ [newO aux])
  | .invokespecial _ => match S with
    | [.ref _] => if aux = 999 then some (pc + 3, L, [], h) else none
    | _ => none
  | _ => none
/-- an end: what is handed back -/
def isRet (m : Nat) (i : Instr) (S : List Value) : Option (Option Value) := match i with
  | .return_ => match S with
    | [] => if mRet m = none then some none else none
    | _ => none
  | .ireturn => match S with
    | [.int v] => match mRet m with
      | some t => if narrow t (.int v) = .int v then some (some (.int v)) else none
      | none => none
    | _ => none
  | .lreturn => match S with
    | [.long v] => if mRet m = some .long then some (some (.long v)) else none
    | _ => none
  | .areturn => match S with
    | [v] => if mRet m = some (.object (cName 1)) ∧ isR v = true then some (some v) else none
    | _ => none
  | _ => none
/-- a call: the called method, its arguments with the receiver, what stays below -/
def isCall (i : Instr) (aux : Nat) (S : List Value) (h : AH) : Option (Nat × List Value × List Value) := match i with
  | .invokevirtual _ => match S.drop (mArgs aux) with
    | .ref a :: rest => if isO h a (mCls aux) = true ∧ (rest.map fun v => v.category).sum ≤ 8 ∧ (len0 (.ref a :: (S.take (mArgs aux)).reverse)).length ≤ mMax aux then some (aux, .ref a :: (S.take (mArgs aux)).reverse, rest) else none
    | _ => none
  | .invokespecial _ => if aux = 999 then none else match S.drop (mArgs aux) with
    | .ref a :: rest => if (rest.map fun v => v.category).sum ≤ 8 ∧ (len0 (.ref a :: (S.take (mArgs aux)).reverse)).length ≤ mMax aux then some (aux, .ref a :: (S.take (mArgs aux)).reverse, rest) else none
    | _ => none
  | .invokestatic _ => if mArgs aux ≤ S.length ∧ ((S.drop (mArgs aux)).map fun v => v.category).sum ≤ 8 ∧ (len0 (S.take (mArgs aux)).reverse).length ≤ mMax aux then some (aux, (S.take (mArgs aux)).reverse, S.drop (mArgs aux)) else none
  | _ => none
def exec : Nat → Nat → Nat → AL → List Value → AH → Option ARes
  | 0, _, _, _, _, _ => none
  | n + 1, m, pc, L, S, h => match cd m pc with
    | none => none
    | some (i, _, aux) => match isRet m i S with
      | some r => some (r, h)
      | none => match isCall i aux S h with
        | some (c, as, rest) => match exec n c 0 (ent c as) [] h with
          | some (r, h1) => exec n m (pc + 3) L (r.toList ++ rest) h1
          | none => none
        | none => match stp m i aux pc L S h with
          | some (pc', L', S', h') => exec n m pc' L' S' h'
          | none => none
theorem exec_mono : ∀ (n m pc : Nat) (L : AL) (S : List Value) (h : AH) (r : ARes), exec n m pc L S h = some r → exec (n + 1) m pc L S h = some r := by
  intro n
  induction n with
  | zero => intro m pc L S h r e; simp [exec] at e
  | succ n ih =>
    intro m pc L S h r e
    rw [exec] at e ⊢
    cases hc : cd m pc with
    | none => rw [hc] at e; simp at e
    | some q =>
      obtain ⟨i, len, aux⟩ := q
      rw [hc] at e
      simp only at e ⊢
      cases hr : isRet m i S with
      | some v => rw [hr] at e; simpa using e
      | none =>
        rw [hr] at e
        simp only at e ⊢
        cases hk : isCall i aux S h with
        | some q =>
          obtain ⟨c, as, rest⟩ := q
          rw [hk] at e
          simp only at e ⊢
          cases he : exec n c 0 (ent c as) [] h with
          | none => rw [he] at e; simp at e
          | some q =>
            obtain ⟨v, h1⟩ := q
            rw [he] at e
            rw [ih _ _ _ _ _ _ he]
            exact ih _ _ _ _ _ _ e
        | none =>
          rw [hk] at e
          simp only at e ⊢
          cases hs : stp m i aux pc L S h with
          | none => rw [hs] at e; simp at e
          | some q =>
            obtain ⟨pc', L', S', h'⟩ := q
            rw [hs] at e
            exact ih _ _ _ _ _ _ e
theorem exec_le {n k m pc : Nat} {L : AL} {S : List Value} {h : AH} {r : ARes} (hk : n ≤ k) (e : exec n m pc L S h = some r) : exec k m pc L S h = some r := by
  induction hk with
  | refl => exact e
  | step _ ih => exact exec_mono _ _ _ _ _ _ _ ih
theorem exec_det {n k m pc : Nat} {L : AL} {S : List Value} {h : AH} {r q : ARes} (e : exec n m pc L S h = some r) (f : exec k m pc L S h = some q) : r = q := by
  have h1 := exec_le (Nat.le_max_left n k) e
  have h2 := exec_le (Nat.le_max_right n k) f
  exact Option.some.inj (h1.symm.trans h2)
/-- what a run comes to, if it ends -/
noncomputable def Run (m pc : Nat) (L : AL) (S : List Value) (h : AH) : Option ARes := @dite (Option ARes) (∃ r : ARes, ∃ n, exec n m pc L S h = some r) (Classical.propDecidable _) (fun w => some w.choose) (fun _ => none)
theorem Run_iff {m pc : Nat} {L : AL} {S : List Value} {h : AH} {r : ARes} : Run m pc L S h = some r ↔ ∃ n, exec n m pc L S h = some r := by
  unfold Run
  constructor
  · intro e
    split at e
    · rename_i w
      have e' := Option.some.inj e
      rw [← e']
      exact w.choose_spec
    · cases e
  · intro ⟨n, e⟩
    have w : ∃ r : ARes, ∃ n, exec n m pc L S h = some r := ⟨r, n, e⟩
    rw [dif_pos w]
    obtain ⟨k, f⟩ := w.choose_spec
    rw [exec_det f e]
noncomputable def RunM (m : Nat) (as : List Value) (h : AH) : Option ARes := Run m 0 (ent m as) [] h
theorem Run_ext {m pc m' pc' : Nat} {L L' : AL} {S S' : List Value} {h h' : AH} (e : ∀ r, (∃ n, exec n m pc L S h = some r) ↔ ∃ n, exec n m' pc' L' S' h' = some r) : Run m pc L S h = Run m' pc' L' S' h' := by
  cases h1 : Run m' pc' L' S' h' with
  | some r => exact Run_iff.mpr ((e r).mpr (Run_iff.mp h1))
  | none =>
    cases h2 : Run m pc L S h with
    | none => rfl
    | some r =>
      have := Run_iff.mpr ((e r).mp (Run_iff.mp h2))
      rw [h1] at this
      cases this
/-- a plain step -/
theorem Run_stp {m pc pc' aux len : Nat} {i : Instr} {L L' : AL} {S S' : List Value} {h h' : AH} (hc : cd m pc = some (i, len, aux)) (hr : isRet m i S = none) (hk : isCall i aux S h = none) (hs : stp m i aux pc L S h = some (pc', L', S', h')) : Run m pc L S h = Run m pc' L' S' h' := by
  refine Run_ext fun r => ⟨fun ⟨n, e⟩ => ?_, fun ⟨n, e⟩ => ⟨n + 1, ?_⟩⟩
  · cases n with
    | zero => simp [exec] at e
    | succ n =>
      rw [exec, hc] at e
      simp only [hr, hk, hs] at e
      exact ⟨n, e⟩
  · rw [exec, hc]
    simp only [hr, hk, hs]
    exact e
theorem Run_ret {m pc aux len : Nat} {i : Instr} {L : AL} {S : List Value} {h : AH} {r : Option Value} (hc : cd m pc = some (i, len, aux)) (hr : isRet m i S = some r) : Run m pc L S h = some (r, h) := by
  refine Run_iff.mpr ⟨1, ?_⟩
  rw [exec, hc]
  simp only [hr]
theorem Run_call {m pc aux len c : Nat} {i : Instr} {L : AL} {S as rest : List Value} {h : AH} (hc : cd m pc = some (i, len, aux)) (hr : isRet m i S = none) (hk : isCall i aux S h = some (c, as, rest)) : Run m pc L S h = (RunM c as h).bind fun q => Run m (pc + 3) L (q.1.toList ++ rest) q.2 := by
  cases h2 : (RunM c as h).bind fun q => Run m (pc + 3) L (q.1.toList ++ rest) q.2 with
  | some r =>
    obtain ⟨⟨v, h1⟩, e1, e2⟩ := Option.bind_eq_some_iff.mp h2
    obtain ⟨n1, f1⟩ := Run_iff.mp e1
    obtain ⟨n2, f2⟩ := Run_iff.mp e2
    refine Run_iff.mpr ⟨max n1 n2 + 1, ?_⟩
    rw [exec, hc]
    simp only [hr, hk]
    rw [exec_le (Nat.le_max_left n1 n2) f1]
    exact exec_le (Nat.le_max_right n1 n2) f2
  | none =>
    cases h1 : Run m pc L S h with
    | none => rfl
    | some r =>
      obtain ⟨n, e⟩ := Run_iff.mp h1
      cases n with
      | zero => simp [exec] at e
      | succ n =>
        rw [exec, hc] at e
        simp only [hr, hk] at e
        cases he : exec n c 0 (ent c as) [] h with
        | none => rw [he] at e; simp at e
        | some q =>
          obtain ⟨v, h1⟩ := q
          rw [he] at e
          have a1 : RunM c as h = some (v, h1) := Run_iff.mpr ⟨n, he⟩
          have a2 : Run m (pc + 3) L (v.toList ++ rest) h1 = some r := Run_iff.mpr ⟨n, e⟩
          rw [a1] at h2
          simp only [Option.bind_some] at h2
          rw [a2] at h2
          cases h2
