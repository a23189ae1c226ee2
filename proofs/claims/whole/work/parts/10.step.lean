section STEP
variable {p : Program} {l : Launch} {e : Env} {R : Room} {s : State} {mm : MethodId} {args : Array Value} {below : List Frame} {meth : Method} {c : Code} {Q : State → Prop} {D : va_G} {N b m c0 s0 pc pc' aux : Nat} {L L' : AL} {S S' : List Value} {h h' : AH}
/-- getfield -/
theorem go_getfield (C : Cx D p R s mm args meth c m) {x : Nat} (hd : decode (mBytes m) pc = .ok (.getfield x, 3)) (hlk : lnk m (.getfield x) aux = true) {a : Nat} {v : Value} {S0 : List Value} (hf : fld h a (aux / 32) (aux % 32) = some v)
    (kk : Go p l e R s mm args below meth c Q D N b m c0 s0 (pc + 3) L (v :: S0) h) : Go p l e R s mm args below meth c Q D N b m c0 s0 pc L (.ref a :: S0) h := by
  intro ls H locs cells slots hR hl hq hc hsl
  obtain ⟨fs, hfs, hv⟩ := fld_spec hf
  have hob : obAt D N b (am N b a) (aux / 32) fs H := hR.at hfs
  obtain ⟨r, hr, hlen, hOB⟩ := id hob
  obtain ⟨h6, hin, hty, hnm, hcT, hnS, hcN⟩ := cl_ok _ _ hr
  unfold lnk at hlk
  simp only [Bool.and_eq_true, decide_eq_true_eq, Bool.or_eq_true] at hlk
  obtain ⟨⟨-, hk⟩, hlk⟩ := hlk
  rw [hnS] at hk
  obtain ⟨C1, C2, C3, C4, C5, C6, C7, C8, C9, C10, C11, C12⟩ := C
  obtain ⟨K1, K2, K3⟩ := C6
  have hv' : (fs.map (cv N b))[aux % 32]? = some (cv N b v) := by rw [List.getElem?_map, hv]; rfl
  rcases hlk with hlk | hlk
  · have hw := C5 _ (FL_in hlk)
    unfold fCond at hw
    rw [hcT] at hw
    exact va_get (D := D) (ci := aux / 32) (C := r.1) (T := r.2.1) (N := r.2.2) C1 C2 C5 hin C4 K1 (one_P hob) 0 rfl hr (aux % 32) hk hw (fun _ h9 => h9) hv' hd (kk ls H locs cells slots hR hl hq hc hsl)
  · have hw := K2 _ (FN_in hlk)
    unfold nCond at hw
    rw [hcT] at hw
    exact va_getN (D := D) (ci := aux / 32) (C := r.1) (T := r.2.1) (N := r.2.2) C1 C2 C5 hin C4 K1 (one_P hob) 0 rfl hr (aux % 32) hk (va_Nw.use rfl hw) (fun _ h9 => h9) hv' hd (kk ls H locs cells slots hR hl hq hc hsl)
/-- putfield -/
theorem go_putfield (C : Cx D p R s mm args meth c m) {x : Nat} (hd : decode (mBytes m) pc = .ok (.putfield x, 3)) (hlk : lnk m (.putfield x) aux = true) {a : Nat} {v : Value} {S0 : List Value} (hf : stf h a (aux / 32) (aux % 32) v = some h')
    (kk : Go p l e R s mm args below meth c Q D N b m c0 s0 (pc + 3) L S0 h') : Go p l e R s mm args below meth c Q D N b m c0 s0 pc L (v :: .ref a :: S0) h := by
  intro ls H locs cells slots hR hl hq hc hsl
  obtain ⟨fs, hfs, ha0, hkl, hfit, hnar, rfl⟩ := stf_spec hf
  have hob : obAt D N b (am N b a) (aux / 32) fs H := hR.at hfs
  obtain ⟨r, hr, hlen, hOB⟩ := id hob
  obtain ⟨h6, hin, hty, hnm, hcT, hnS, hcN⟩ := cl_ok _ _ hr
  unfold lnk at hlk
  simp only [Bool.and_eq_true, decide_eq_true_eq, Bool.or_eq_true, Bool.not_eq_true'] at hlk
  obtain ⟨⟨⟨-, hk⟩, hlk⟩, hfin⟩ := hlk
  rw [hnS] at hk
  obtain ⟨C1, C2, C3, C4, C5, C6, C7, C8, C9, C10, C11, C12⟩ := C
  obtain ⟨K1, K2, K3⟩ := C6
  have hw := C5 _ (FL_in hlk)
  unfold fCond at hw
  rw [hcT] at hw hfin
  have hap := va_apart (own := cName (mCls m)) C5 hin (fty (aux / 32)) hty hnm K1 hr
  obtain ⟨cell, q1, q2, q3, q4⟩ := hOB
  obtain ⟨hS, hfc, kC, hkC, hkind⟩ := K1.1 _ _ hr
  obtain ⟨cf, kf, fi, f, hi, hslot⟩ := hS _ hk
  have hst := (u_facts hfc hkC (u_lays C5 hin hk) hi).1
  have hn2 := cv_narrow N b _ _ hnar
  have hf2 : fits (fty (aux / 32) (aux % 32)) (cv N b v) = true := by rw [cv_fits]; exact hfit
  have hset : (fs.set (aux % 32) v).map (cv N b) = (fs.map (cv N b)).set (aux % 32) (cv N b v) := List.map_set
  have fin2 : ∀ H' : Heap, H'[am N b a]? = some (cell.setSlot f.slot (cv N b v)) → H'.size = H.size → (∀ q : Nat, q ≠ am N b a → H'[q]? = H[q]?) → W p l e R s mm args below meth c H' (locs ++ [⟨am N b a, f.slot⟩]) cells slots Q (F0 mm (pc + 3) ls (S0.map (cv N b))) := by
    intro H' e1 e2 e3
    refine kk ls H' _ cells slots (hR.set hfs ?_ e2 e3) hl (fun q hq' => ?_) (by rw [List.length_set]; exact hc) (hsl.trans (sl_set (e := .inr (aux / 32, fs.set (aux % 32) v)) hfs rfl).symm)
    · rw [hslot] at e1
      refine ⟨r, hr, by rw [List.length_set]; exact hlen, ?_⟩
      rw [hset]
      exact t_OB.to (V := updV (vp_V (fs.map (cv N b))) (aux % 32) (cv N b v)) ⟨_, e1, q2, q3, t_set q4 hap hk _⟩ (fun j _ => vp_updV_set (by rw [List.length_map]; exact hkl) _ j)
    · rcases List.mem_append.mp hq' with h9 | h9
      · exact hq q h9
      · rw [List.mem_singleton.mp h9]
        exact am_pos ha0
  have hlt : f.slot < cell.slots.size := by rw [hslot]; exact k2_hasslot (q4 _ hk)
  rcases hfin with hfin | hfin
  · have hlay := C5 _ (hin _ (u_in_lay hk))
    unfold u_lay at hlay
    rw [if_neg (by rw [hfin]; decide)] at hlay
    have h7 := u_store hfc hkC hkind hlay hi (hty _ hk) hn2 hf2
    exact W.putK C1 C2 (f := f) ⟨C4, hw, ⟨_, _, _, hi⟩, hst⟩ (by rw [q2]; exact h7) q1 q3 hlt rfl rfl hd fin2
  · obtain ⟨hin2, hcls⟩ := hfin
    have hown : (r.2.1 (aux % 32)).1 = cName (mCls m) ∨ (r.2.1 (aux % 32)).2.2.2 = false := by
      rw [← hcls, hcN]
      exact cl_own _ _ hr _ hk
    by_cases hff : (r.2.1 (aux % 32)).2.2.2 = true
    · have hlay := C5 _ (hin _ (u_in_lay hk))
      unfold u_lay at hlay
      rw [if_pos hff] at hlay
      have hdecl : (r.2.1 (aux % 32)).1 = cName (mCls m) := by
        rcases hown with h8 | h8
        · exact h8
        · rw [hff] at h8; cases h8
      have hcf : mm.cls = cf := by
        obtain ⟨_, _, c', _, _, _, -, -, hf', -, -, -, hown2, -⟩ := Cond.laysFinal_spec hlay
        have e1 : c' = cf := by have := hi.symm.trans hf'; simp at this; exact this.1.symm
        rw [hdecl] at hown2
        rw [← e1]; exact Option.some.inj (C4.symm.trans hown2)
      have h7 := u_fits hfc hkC hkind (Or.inr hlay) hi (hty _ hk) hn2 hf2
      exact W.putFinK C1 C2 C4 hw hi hst hcf (C7 hin2) (by rw [q2]; exact h7) q1 q3 hlt rfl rfl hd fin2
    · have hff' : (r.2.1 (aux % 32)).2.2.2 = false := by simpa using hff
      have hlay := C5 _ (hin _ (u_in_lay hk))
      unfold u_lay at hlay
      rw [if_neg hff] at hlay
      have h7 := u_store hfc hkC hkind hlay hi (hty _ hk) hn2 hf2
      exact W.putK C1 C2 (f := f) ⟨C4, hw, ⟨_, _, _, hi⟩, hst⟩ (by rw [q2]; exact h7) q1 q3 hlt rfl rfl hd fin2
/-- array reads -/
theorem go_ald (C : Cx D p R s mm args meth c m) {i : Instr} {ty : FieldType} (hd : decode (mBytes m) pc = .ok (i, 1)) (hi : (i = .iaload ∧ ty = .int) ∨ (i = .baload ∧ ty = .boolean) ∨ (i = .laload ∧ ty = .long) ∨ (i = .aaload ∧ ty.isReference = true)) {a : Nat} {j : Int32} {v : Value} {S0 : List Value} (hf : ald h a ty j = some v)
    (kk : Go p l e R s mm args below meth c Q D N b m c0 s0 (pc + 1) L (v :: S0) h) : Go p l e R s mm args below meth c Q D N b m c0 s0 pc L (.int j :: .ref a :: S0) h := by
  intro ls H locs cells slots hR hl hq hc hsl
  obtain ⟨n, f, hfs, hin, rfl⟩ := ald_spec hf
  obtain ⟨cell, g1, g2, g3, g4, g5, g6⟩ : arAt N b s (am N b a) ty n f H := hR.at hfs
  obtain ⟨i1, i2⟩ := inB_spec hin
  have hin' : ¬ (j < 0 ∨ cell.slots.size ≤ j.toNatClampNeg) := by rw [g4]; exact i1
  have k9 := kk ls H locs cells slots hR hl hq hc hsl
  rcases hi with ⟨rfl, rfl⟩ | ⟨rfl, rfl⟩ | ⟨rfl, rfl⟩ | ⟨rfl, hrf⟩
  · exact W.iald C.1 C.2.1 g1 g2 g3 hin' (g5 _ i2) rfl rfl hd k9
  · exact W.zald C.1 C.2.1 g1 g2 g3 hin' (g5 _ i2) rfl rfl hd k9
  · exact W.lald C.1 C.2.1 g1 g2 g3 hin' (g5 _ i2) rfl rfl hd k9
  · exact W.aald C.1 C.2.1 g1 g2 hrf g3 hin' (g5 _ i2) rfl rfl hd k9
theorem arAt_set {U : State} {a : Nat} {ty : FieldType} {n j : Nat} {f : Nat → Value} {H' : Heap} {cell : Cell} {v : Value} (g2 : U.isArrayOf cell ty) (g3 : cell.vm ≠ .unknown) (g4 : cell.slots.size = n) (g5 : ∀ j, j < n → cell.slots[j]? = some (cv N b (f j))) (g6 : ty.isReference = true → va_RA U cell.cls ty) (hj : j < n) (e1 : H'[a]? = some (cell.setSlot j (cv N b v))) : arAt N b U a ty n (updV f j v) H' := by
  refine ⟨_, e1, g2, g3, by rw [k2_slotsz]; exact g4, fun k hk => ?_, g6⟩
  by_cases hkj : k = j
  · subst hkj
    rw [Cell.slots_setSlot_self _ (by rw [g4]; exact hj)]
    simp [updV]
  · rw [Cell.slots_setSlot_ne _ (Ne.symm hkj), g5 k hk]
    simp [updV, hkj]
/-- array stores -/
theorem go_ast (C : Cx D p R s mm args meth c m) {i : Instr} {ty : FieldType} {v : Value} (hd : decode (mBytes m) pc = .ok (i, 1)) (hi : (i = .iastore ∧ ty = .int ∧ ∃ x, v = .int x) ∨ (i = .bastore ∧ ty = .boolean ∧ ∃ x, v = .int x) ∨ (i = .lastore ∧ ty = .long ∧ ∃ x, v = .long x) ∨ (i = .aastore ∧ ty = .object (cName 1) ∧ ∃ x, v = .ref x ∧ isO h x 1 = true)) {a : Nat} {j : Int32} {S0 : List Value} (hf : ast h a ty j v = some h')
    (kk : Go p l e R s mm args below meth c Q D N b m c0 s0 (pc + 1) L S0 h') : Go p l e R s mm args below meth c Q D N b m c0 s0 pc L (v :: .int j :: .ref a :: S0) h := by
  intro ls H locs cells slots hR hl hq hc hsl
  obtain ⟨n, f, hfs, ha0, hin, hnar, rfl⟩ := ast_spec hf
  obtain ⟨cell, g1, g2, g3, g4, g5, g6⟩ : arAt N b s (am N b a) ty n f H := hR.at hfs
  obtain ⟨i1, i2⟩ := inB_spec hin
  have hin' : ¬ (j < 0 ∨ cell.slots.size ≤ j.toNatClampNeg) := by rw [g4]; exact i1
  have fin2 : ∀ H' : Heap, H'[am N b a]? = some (cell.setSlot j.toNatClampNeg (cv N b v)) → H'.size = H.size → (∀ q : Nat, q ≠ am N b a → H'[q]? = H[q]?) → W p l e R s mm args below meth c H' (locs ++ [⟨am N b a, j.toNatClampNeg⟩]) cells slots Q (F0 mm (pc + 1) ls (S0.map (cv N b))) := by
    intro H' e1 e2 e3
    refine kk ls H' _ cells slots (hR.set hfs (arAt_set g2 g3 g4 g5 g6 i2 e1) e2 e3) hl (fun q hq' => ?_) (by rw [List.length_set]; exact hc) (hsl.trans (sl_set (e := .inl (ty, n, updV f j.toNatClampNeg v)) hfs rfl).symm)
    rcases List.mem_append.mp hq' with h9 | h9
    · exact hq q h9
    · rw [List.mem_singleton.mp h9]
      exact am_pos ha0
  rcases hi with ⟨rfl, rfl, x, rfl⟩ | ⟨rfl, rfl, x, rfl⟩ | ⟨rfl, rfl, x, rfl⟩ | ⟨rfl, rfl, x, rfl, hx⟩
  · exact W.iast C.1 C.2.1 g1 g2 g3 hin' rfl rfl hd fin2
  · refine W.zast C.1 C.2.1 g1 g2 g3 hin' rfl rfl hd fun H' e1 => ?_
    rw [hnar] at e1
    exact fin2 H' e1
  · exact W.last C.1 C.2.1 g1 g2 g3 hin' rfl rfl hd fin2
  · obtain ⟨fs, hx2⟩ := isO_spec hx
    obtain ⟨r, hr, -, cellV, k1, k2, k3, -⟩ : obAt D N b (am N b x) 1 fs H := hR.at hx2
    have hK := C.2.2.2.2.2.1.1.1 1 r hr
    obtain ⟨kA, comp, r1, r2, r3, -⟩ := g6 rfl
    have hcN := (cl_ok _ _ hr).2.2.2.2.2.2
    rw [hcN] at r3
    have hcomp : comp = D.1 1 := Option.some.inj (r3.symm.trans hK.2.1)
    subst hcomp
    obtain ⟨kC, hkC, -⟩ := hK.2.2
    exact W.aast C.1 C.2.1 g1 g2.1 g3 r1 r2 rfl hkC ⟨fun q => hin' (Or.inl q), by rw [g4]; exact i2⟩ k1 (fun q h9 => by rw [k3] at h9; cases h9) (by rw [k2]; exact hkC) (by rw [k2]; exact va_assign hK.2) rfl rfl hd fin2
theorem go_len (C : Cx D p R s mm args meth c m) (hd : decode (mBytes m) pc = .ok (.arraylength, 1)) {a : Nat} {n : Int32} {S0 : List Value} (hf : aln h a = some n)
    (kk : Go p l e R s mm args below meth c Q D N b m c0 s0 (pc + 1) L (.int n :: S0) h) : Go p l e R s mm args below meth c Q D N b m c0 s0 pc L (.ref a :: S0) h := by
  intro ls H locs cells slots hR hl hq hc hsl
  obtain ⟨ty, k, f, hfs, rfl⟩ := aln_spec hf
  obtain ⟨cell, g1, g2, g3, g4, g5, g6⟩ : arAt N b s (am N b a) ty k f H := hR.at hfs
  exact W.alen C.1 C.2.1 g1 g2 (by rw [g4] <;> rfl) rfl rfl hd (kk ls H locs cells slots hR hl hq hc hsl)
theorem nat_of_le {n : Int32} (h0 : 0 ≤ n.toInt) (h1 : n.toInt ≤ 60000) : ¬ n < 0 ∧ n.toNatClampNeg ≤ 60000 := by
  refine ⟨fun q => ?_, ?_⟩
  · rw [Int32.lt_iff_toInt_lt, Int32.toInt_zero] at q
    omega
  · show n.toInt.toNat ≤ 60000
    omega
theorem go_newarray (C : Cx D p R s mm args meth c m) {t : ArrayType} (hd : decode (mBytes m) pc = .ok (.newarray t, 2)) (hlk : lnk m (.newarray t) aux = true) {n : Int32} {S0 : List Value} (h0 : 0 ≤ n.toInt) (h1 : n.toInt ≤ 60000) (hcap : (h ++ [newA (newarray.typeOf t) n.toNatClampNeg]).length ≤ R.cells + c0 ∧ sl (h ++ [newA (newarray.typeOf t) n.toNatClampNeg]) ≤ R.slots + s0)
    (kk : Go p l e R s mm args below meth c Q D N b m c0 s0 (pc + 2) L (.ref h.length :: S0) (h ++ [newA (newarray.typeOf t) n.toNatClampNeg])) : Go p l e R s mm args below meth c Q D N b m c0 s0 pc L (.int n :: S0) h := by
  intro ls H locs cells slots hR hl hq hc hsl
  obtain ⟨n1, n2⟩ := nat_of_le h0 h1
  rw [sl_push, List.length_append] at hcap
  have hz : szE (newA (newarray.typeOf t) n.toNatClampNeg) = n.toNatClampNeg := rfl
  rw [hz] at hcap
  obtain ⟨z1, z2⟩ := hcap
  simp only [List.length_singleton] at z1
  have hw : (Cond.arrayClass (newarray.typeOf t)).before args s = true := by
    refine C.2.2.2.2.1 _ ?_
    cases t with
    | int => exact wA_int
    | boolean => exact wA_boolean
    | long => exact wA_long
    | _ => cases hlk
  have hbt : n.toNatClampNeg * componentBytes (newarray.typeOf t) ≤ 536870912 := by
    have : componentBytes (newarray.typeOf t) ≤ 8 := by cases t <;> decide
    calc n.toNatClampNeg * componentBytes (newarray.typeOf t) ≤ 60000 * 8 := Nat.mul_le_mul n2 this
      _ ≤ 536870912 := by decide
  refine va_newaK C.1 C.2.1 hw rfl hd rfl n1 rfl hbt (by omega) (by omega) rfl fun H1 cA e1 z1 o1 hAr hNm => ?_
  have hR' : Rel D s N b (h ++ [newA (newarray.typeOf t) n.toNatClampNeg]) H1 := by
    refine hR.push z1 o1 ⟨_, e1, hAr _ _, (fun q => by cases q), arrV_size _ _ _, fun j hj => ?_, fun hrf => ?_⟩
    · rw [arrV_read _ _ hj, cv_def]
    · cases t <;> cases hrf
  have := kk ls H1 locs (cells + 1) (slots + n.toNatClampNeg) hR' hl hq (by rw [List.length_append, List.length_singleton]; omega) (by rw [sl_push, hz]; omega)
  rw [List.map_cons, show cv N b (.ref h.length) = .ref (am N b h.length) from rfl, hR.end] at this
  exact this
theorem go_anewarray (C : Cx D p R s mm args meth c m) {x : Nat} (hd : decode (mBytes m) pc = .ok (.anewarray x, 3)) (hlk : lnk m (.anewarray x) aux = true) {n : Int32} {S0 : List Value} (h0 : 0 ≤ n.toInt) (h1 : n.toInt ≤ 60000) (hcap : (h ++ [newA (.object (cName 1)) n.toNatClampNeg]).length ≤ R.cells + c0 ∧ sl (h ++ [newA (.object (cName 1)) n.toNatClampNeg]) ≤ R.slots + s0)
    (kk : Go p l e R s mm args below meth c Q D N b m c0 s0 (pc + 3) L (.ref h.length :: S0) (h ++ [newA (.object (cName 1)) n.toNatClampNeg])) : Go p l e R s mm args below meth c Q D N b m c0 s0 pc L (.int n :: S0) h := by
  intro ls H locs cells slots hR hl hq hc hsl
  obtain ⟨n1, n2⟩ := nat_of_le h0 h1
  rw [sl_push, List.length_append] at hcap
  have hz : szE (newA (.object (cName 1)) n.toNatClampNeg) = n.toNatClampNeg := rfl
  rw [hz] at hcap
  obtain ⟨z1, z2⟩ := hcap
  simp only [List.length_singleton] at z1
  unfold lnk at hlk
  simp only [Bool.and_eq_true, decide_eq_true_eq] at hlk
  obtain ⟨rfl, hlk⟩ := hlk
  have hw := C.2.2.2.2.1 _ (CL_in hlk)
  refine W.anew C.1 C.2.1 C.2.2.2.1 hw (va_AO.use C.2.2.2.2.2.1.2.2) rfl hd rfl n1 (by omega) (by omega) (by omega) fun cA kA comp f1 f2 f3 f4 => ?_
  generalize hH1 : H.push ({ cls := cA, slots := Array.replicate n.toNatClampNeg .null, vm := .none } : Cell) = H1
  have y1 : H1.size = H.size + 1 := by rw [← hH1, Array.size_push]
  have e1 : H1[H.size]? = some (arrV cA n.toNatClampNeg (fun _ => .null)) := by rw [← hH1, Array.getElem?_push_size, ← arrV_new]
  have o1 : ∀ q : Nat, q < H.size → H1[q]? = H[q]? := by
    intro q hq9
    rw [← hH1, Array.getElem?_push, if_neg (Nat.ne_of_lt hq9)]
  have hR' : Rel D s N b (h ++ [newA (.object (cName 1)) n.toNatClampNeg]) H1 := by
    refine hR.push y1 o1 ⟨_, e1, ⟨fun q h9 => (by cases h9), kA, f2, comp, f3⟩, (fun q => by cases q), arrV_size _ _ _, fun j hj => ?_, fun _ => ⟨kA, comp, f2, f3, f4, f1⟩⟩
    rw [arrV_read _ _ hj, cv_def]
    rfl
  have := kk ls H1 locs (cells + 1) (slots + n.toNatClampNeg) hR' hl hq (by rw [List.length_append, List.length_singleton]; omega) (by rw [sl_push, hz]; omega)
  rw [List.map_cons, show cv N b (.ref h.length) = .ref (am N b h.length) from rfl, hR.end] at this
  exact this
theorem go_new (C : Cx D p R s mm args meth c m) {x : Nat} (hd : decode (mBytes m) pc = .ok (.new x, 3)) (hlk : lnk m (.new x) aux = true) (hcap : (h ++ [newO aux]).length ≤ R.cells + c0 ∧ sl (h ++ [newO aux]) ≤ R.slots + s0)
    (kk : Go p l e R s mm args below meth c Q D N b m c0 s0 (pc + 3) L (.ref h.length :: S) (h ++ [newO aux])) : Go p l e R s mm args below meth c Q D N b m c0 s0 pc L S h := by
  intro ls H locs cells slots hR hl hq hc hsl
  rw [sl_push, List.length_append] at hcap
  have hz : szE (newO aux) = nSl aux := rfl
  rw [hz] at hcap
  obtain ⟨z1, z2⟩ := hcap
  simp only [List.length_singleton] at z1
  unfold lnk at hlk
  simp only [Bool.and_eq_true, decide_eq_true_eq] at hlk
  obtain ⟨h6, hlk⟩ := hlk
  have hw := C.2.2.2.2.1 _ (CL_in hlk)
  have hnw := List.all_eq_true.mp NWt_ok aux (List.mem_range.mpr h6)
  rw [Bool.and_eq_true] at hnw
  have w1 := C.2.2.2.2.1 _ (gw_of hnw.1)
  have w2 := C.2.2.2.2.1 _ (gw_of hnw.2)
  obtain ⟨r, hr⟩ := cl_at aux h6
  obtain ⟨-, hin, hty, hnm, hcT, hnS, hcN⟩ := cl_ok _ _ hr
  have hKn := C.2.2.2.2.2.1.1.1 aux r hr
  refine W.newcK C.1 C.2.1 C.2.2.2.1 hw w1 w2 rfl hd (by omega) (by omega) (by rw [hcN]; exact hKn.2.1) rfl fun H1 kC hkC e1 y1 o1 => ?_
  have hR' : Rel D s N b (h ++ [newO aux]) H1 := by
    refine hR.push y1 o1 ⟨r, hr, by simp [hnS], ?_⟩
    refine (u_born (fty aux) C.2.2.2.2.1 hin hKn hkC e1 hty).to fun k hk => ?_
    simp only [vp_V, List.map_map, List.getD_eq_getElem?_getD, List.getElem?_map]
    rw [hnS, List.getElem?_range hk]
    simp [cv_def]
  have := kk ls H1 locs (cells + 1) (slots + nSl aux) hR' hl hq (by rw [List.length_append, List.length_singleton]; omega) (by rw [sl_push, hz]; omega)
  rw [List.map_cons, show cv N b (.ref h.length) = .ref (am N b h.length) from rfl, hR.end] at this
  exact this
end STEP
