/-! ===== The heap of the law: the class's cells 1 .. 60, the reference's 61 .. 69 ===== -/
abbrev FlS : Type := (Nat → Int32) × (Nat → Int32) × Int32 × Int32 × Int32
abbrev OpS : Type := (Nat → Int32) × Int32
abbrev LiS : Type := (Nat → Int32) × (Nat → Int32) × (Nat → Int32) × (Nat → Int64) × Int32 × Int32 × Int32
/-- the reference: flash, wears; off, mounted, cutSet, left, units; names, kinds, args, bytes; count, markPair, markName, end; ops, length; anew, much -/
abbrev MoS : Type := (Nat → Int32) × (Nat → Int32) × (Int32 × Int32 × Int32 × Int32 × Int32) × ((Nat → Int32) × (Nat → Int32) × (Nat → Int32) × (Nat → Int64)) × (Int32 × Int32 × Int32 × Int32) × ((Nat → Int32) × Int32) × ((Nat → Int32) × Int32)
def arI (n : Nat) (f : Nat → Int32) : AC := .inl (.int, n, fun j => .int (f j))
def arZ (n : Nat) (f : Nat → Int32) : AC := .inl (.boolean, n, fun j => .int (f j))
def arJ (n : Nat) (f : Nat → Int64) : AC := .inl (.long, n, fun j => .long (f j))
def foA (j : Nat) : Value := if j < 8 then .ref (13 + 6 * j) else .null
def fC (q : Nat) (l : LiS) : AH := [.inr (1, [.int (nI q), .ref 2, .ref 5, .ref (14 + 6 * q)]), .inr (2, [.ref (15 + 6 * q), .ref (16 + 6 * q), .ref (17 + 6 * q), .ref (18 + 6 * q), .int l.2.2.2.2.1, .int l.2.2.2.2.2.1, .int l.2.2.2.2.2.2]), arI 4 l.1, arI 4 l.2.1, arI 4 l.2.2.1, arJ 4 l.2.2.2.1]
def hM (M : MoS) : AH := [.inr (5, [.ref 62, .ref 63, .int M.2.2.1.1, .int M.2.2.1.2.1, .int M.2.2.1.2.2.1, .int M.2.2.1.2.2.2.1, .int M.2.2.1.2.2.2.2, .ref 64, .ref 65, .ref 66, .ref 67, .int M.2.2.2.2.1.1, .int M.2.2.2.2.1.2.1, .int M.2.2.2.2.1.2.2.1, .int M.2.2.2.2.1.2.2.2, .ref 68, .int M.2.2.2.2.2.1.2, .ref 69, .int M.2.2.2.2.2.2.2]), arI 1024 M.1, arI 16 M.2.1, arI 4 M.2.2.2.1.1, arI 4 M.2.2.2.1.2.1, arI 4 M.2.2.2.1.2.2.1, arJ 4 M.2.2.2.1.2.2.2, arI 32 M.2.2.2.2.2.1.1, arI 64 M.2.2.2.2.2.2.1]
def hp (sc : AC) (F : FlS) (s c : OpS) (th be qu : Nat → Int32) (mo : Int32) (li : Nat → LiS) (mm : AH) : AH :=
  [sc, .inr (4, [.ref 2, .ref 7, .ref 8, .ref 9, .ref 10, .ref 11, .int mo]), .inr (0, [.ref 3, .ref 4, .int F.2.2.1, .int F.2.2.2.1, .int F.2.2.2.2]), arI 1024 F.1, arI 16 F.2.1, .inr (3, [.ref 6, .int s.2]), arI 64 s.1, .inl (.object (cName 1), 8, foA), arZ 8 th, arZ 8 be, arI 8 qu, .inr (3, [.ref 12, .int c.2]), arI 64 c.1] ++ (fC 0 (li 0) ++ (fC 1 (li 1) ++ (fC 2 (li 2) ++ (fC 3 (li 3) ++ (fC 4 (li 4) ++ (fC 5 (li 5) ++ (fC 6 (li 6) ++ (fC 7 (li 7) ++ mm))))))))
def upL (li : Nat → LiS) (q : Nat) (l : LiS) : Nat → LiS := fun j => if j = q then l else li j
theorem upL_self (li : Nat → LiS) (q : Nat) (l : LiS) : upL li q l q = l := if_pos rfl
theorem upL_ne (li : Nat → LiS) {q j : Nat} (l : LiS) (h : j ≠ q) : upL li q l j = li j := if_neg h
theorem upL_up (li : Nat → LiS) (q : Nat) (l l2 : LiS) : upL (upL li q l) q l2 = upL li q l2 := by
  funext j
  by_cases h : j = q <;> simp [upL, h]
theorem upL_id (li : Nat → LiS) (q : Nat) : upL li q (li q) = li := by
  funext j
  by_cases h : j = q
  · subst h; simp [upL]
  · simp [upL, h]
def bB (c : Bool) : Int32 := if c = true then 1 else 0
theorem bB_t : bB true = 1 := rfl
theorem bB_f : bB false = 0 := rfl
theorem bB_0 (c : Bool) : (bB c = 0) = (c = false) := by cases c <;> decide
theorem bB_1 (c : Bool) : (bB c = 1) = (c = true) := by cases c <;> decide
theorem bB_and (c : Bool) : bB c &&& 1 = bB c := by cases c <;> decide
theorem z_10 : ((1 : Int32) = 0) = False := by decide
theorem z_1 : (1 : Int32) &&& 1 = 1 := by decide
theorem z_0 : (0 : Int32) &&& 1 = 0 := by decide
/-! general: a field read, written; an array read, written -/
theorem fld_of {h : AH} {a ci k : Nat} {fs : List Value} {v : Value} (h1 : h[a]? = some (.inr (ci, fs))) (h2 : fs[k]? = some v) : fld h a ci k = some v := by
  unfold fld
  rw [h1]
  simp only [if_true, h2]
theorem okF_int {ci k : Nat} {v : Int32} (h : fty ci k = .int) : okF ci k (.int v) = true := by
  unfold okF
  rw [h]
  simp [fits, narrow]
theorem okF_bool {ci k : Nat} {v : Int32} (h : fty ci k = .boolean) (hv : v = 0 ∨ v = 1) : okF ci k (.int v) = true := by
  unfold okF
  rw [h]
  rcases hv with rfl | rfl <;> decide
theorem okF_bB {ci k : Nat} {c : Bool} (h : fty ci k = .boolean) : okF ci k (.int (bB c)) = true := okF_bool h (by cases c <;> decide)
theorem stf_of {h h' : AH} {a ci k : Nat} {fs : List Value} {v : Value} (h1 : h[a]? = some (.inr (ci, fs))) (h2 : okF ci k v = true) (ha : a ≠ 0) (hk : k < fs.length) (h3 : h.set a (.inr (ci, fs.set k v)) = h') : stf h a ci k v = some h' := by
  unfold stf
  rw [h1]
  simp only
  rw [if_pos ⟨ha, trivial, hk, h2⟩, h3]
theorem ald_of {h : AH} {a n : Nat} {ty : FieldType} {f : Nat → Value} {i : Int32} (h1 : h[a]? = some (.inl (ty, n, f))) (h2 : inB i n = true) : ald h a ty i = some (f i.toNatClampNeg) := by
  unfold ald
  rw [h1]
  simp only
  rw [if_pos ⟨trivial, h2⟩]
theorem ast_of {h h' : AH} {a n : Nat} {ty : FieldType} {f : Nat → Value} {i : Int32} {v : Value} (h1 : h[a]? = some (.inl (ty, n, f))) (h2 : inB i n = true) (ha : a ≠ 0) (hn : narrow ty v = v) (h3 : h.set a (.inl (ty, n, updV f i.toNatClampNeg v)) = h') : ast h a ty i v = some h' := by
  unfold ast
  rw [h1]
  simp only
  rw [if_pos ⟨ha, trivial, h2, hn⟩, h3]
theorem updV_int (f : Nat → Int32) (k : Nat) (x : Int32) : updV (fun j => Value.int (f j)) k (.int x) = fun j => .int (upd f k x j) := by
  funext j
  by_cases h : j = k <;> simp [updV, upd, h]
theorem updV_long (f : Nat → Int64) (k : Nat) (x : Int64) : updV (fun j => Value.long (f j)) k (.long x) = fun j => .long (vp_updL f k x j) := by
  funext j
  by_cases h : j = k <;> simp [updV, vp_updL, h]
section HEAP
variable {sc : AC} {F : FlS} {s c : OpS} {th be qu : Nat → Int32} {mo : Int32} {li : Nat → LiS} {mm : AH}
theorem hp_fo : ∀ q, q < 8 → (hp sc F s c th be qu mo li mm)[13 + 6 * q]? = some (.inr (1, [.int (nI q), .ref 2, .ref 5, .ref (14 + 6 * q)]))
  | 0, _ => rfl | 1, _ => rfl | 2, _ => rfl | 3, _ => rfl | 4, _ => rfl | 5, _ => rfl | 6, _ => rfl | 7, _ => rfl
  | q + 8, h => absurd h (by omega)
theorem hp_li : ∀ q, q < 8 → (hp sc F s c th be qu mo li mm)[14 + 6 * q]? = some (.inr (2, [.ref (15 + 6 * q), .ref (16 + 6 * q), .ref (17 + 6 * q), .ref (18 + 6 * q), .int (li q).2.2.2.2.1, .int (li q).2.2.2.2.2.1, .int (li q).2.2.2.2.2.2]))
  | 0, _ => rfl | 1, _ => rfl | 2, _ => rfl | 3, _ => rfl | 4, _ => rfl | 5, _ => rfl | 6, _ => rfl | 7, _ => rfl
  | q + 8, h => absurd h (by omega)
theorem hp_nm : ∀ q, q < 8 → (hp sc F s c th be qu mo li mm)[15 + 6 * q]? = some (arI 4 (li q).1)
  | 0, _ => rfl | 1, _ => rfl | 2, _ => rfl | 3, _ => rfl | 4, _ => rfl | 5, _ => rfl | 6, _ => rfl | 7, _ => rfl
  | q + 8, h => absurd h (by omega)
theorem hp_pr : ∀ q, q < 8 → (hp sc F s c th be qu mo li mm)[16 + 6 * q]? = some (arI 4 (li q).2.1)
  | 0, _ => rfl | 1, _ => rfl | 2, _ => rfl | 3, _ => rfl | 4, _ => rfl | 5, _ => rfl | 6, _ => rfl | 7, _ => rfl
  | q + 8, h => absurd h (by omega)
theorem hp_ln : ∀ q, q < 8 → (hp sc F s c th be qu mo li mm)[17 + 6 * q]? = some (arI 4 (li q).2.2.1)
  | 0, _ => rfl | 1, _ => rfl | 2, _ => rfl | 3, _ => rfl | 4, _ => rfl | 5, _ => rfl | 6, _ => rfl | 7, _ => rfl
  | q + 8, h => absurd h (by omega)
theorem hp_ct : ∀ q, q < 8 → (hp sc F s c th be qu mo li mm)[18 + 6 * q]? = some (arJ 4 (li q).2.2.2.1)
  | 0, _ => rfl | 1, _ => rfl | 2, _ => rfl | 3, _ => rfl | 4, _ => rfl | 5, _ => rfl | 6, _ => rfl | 7, _ => rfl
  | q + 8, h => absurd h (by omega)
/-- writing a cell of a listing -/
theorem hp_setL : ∀ q, q < 8 → ∀ (l : LiS), (hp sc F s c th be qu mo li mm).set (14 + 6 * q) (.inr (2, [.ref (15 + 6 * q), .ref (16 + 6 * q), .ref (17 + 6 * q), .ref (18 + 6 * q), .int l.2.2.2.2.1, .int l.2.2.2.2.2.1, .int l.2.2.2.2.2.2])) = hp sc F s c th be qu mo (upL li q ((li q).1, (li q).2.1, (li q).2.2.1, (li q).2.2.2.1, l.2.2.2.2)) mm
  | 0, _, _ => rfl | 1, _, _ => rfl | 2, _, _ => rfl | 3, _, _ => rfl | 4, _, _ => rfl | 5, _, _ => rfl | 6, _, _ => rfl | 7, _, _ => rfl
  | q + 8, h, _ => absurd h (by omega)
theorem hp_setN : ∀ q, q < 8 → ∀ (f : Nat → Int32), (hp sc F s c th be qu mo li mm).set (15 + 6 * q) (arI 4 f) = hp sc F s c th be qu mo (upL li q (f, (li q).2)) mm
  | 0, _, _ => rfl | 1, _, _ => rfl | 2, _, _ => rfl | 3, _, _ => rfl | 4, _, _ => rfl | 5, _, _ => rfl | 6, _, _ => rfl | 7, _, _ => rfl
  | q + 8, h, _ => absurd h (by omega)
theorem hp_setP : ∀ q, q < 8 → ∀ (f : Nat → Int32), (hp sc F s c th be qu mo li mm).set (16 + 6 * q) (arI 4 f) = hp sc F s c th be qu mo (upL li q ((li q).1, f, (li q).2.2)) mm
  | 0, _, _ => rfl | 1, _, _ => rfl | 2, _, _ => rfl | 3, _, _ => rfl | 4, _, _ => rfl | 5, _, _ => rfl | 6, _, _ => rfl | 7, _, _ => rfl
  | q + 8, h, _ => absurd h (by omega)
theorem hp_setG : ∀ q, q < 8 → ∀ (f : Nat → Int32), (hp sc F s c th be qu mo li mm).set (17 + 6 * q) (arI 4 f) = hp sc F s c th be qu mo (upL li q ((li q).1, (li q).2.1, f, (li q).2.2.2)) mm
  | 0, _, _ => rfl | 1, _, _ => rfl | 2, _, _ => rfl | 3, _, _ => rfl | 4, _, _ => rfl | 5, _, _ => rfl | 6, _, _ => rfl | 7, _, _ => rfl
  | q + 8, h, _ => absurd h (by omega)
theorem hp_setC : ∀ q, q < 8 → ∀ (f : Nat → Int64), (hp sc F s c th be qu mo li mm).set (18 + 6 * q) (arJ 4 f) = hp sc F s c th be qu mo (upL li q ((li q).1, (li q).2.1, (li q).2.2.1, f, (li q).2.2.2.2)) mm
  | 0, _, _ => rfl | 1, _, _ => rfl | 2, _, _ => rfl | 3, _, _ => rfl | 4, _, _ => rfl | 5, _, _ => rfl | 6, _, _ => rfl | 7, _, _ => rfl
  | q + 8, h, _ => absurd h (by omega)
end HEAP
