/-! ===== How the small machine's state stands for the JVM's: cell k > 0 at the address N + (k - 1), cell 0 (the script) at b ===== -/
def am (N b : Nat) : Nat → Nat
  | 0 => b
  | k + 1 => N + k
theorem am_inj {N b i j : Nat} (hb : b < N) (h : am N b i = am N b j) : i = j := by
  cases i <;> cases j <;> simp only [am] at h <;> omega
theorem am_pos {N b k : Nat} (hk : k ≠ 0) : N ≤ am N b k := by
  cases k with
  | zero => exact absurd rfl hk
  | succ k => simp only [am]; omega
def cv (N b : Nat) : Value → Value
  | .ref a => .ref (am N b a)
  | v => v
theorem cv_cat (N b : Nat) (v : Value) : (cv N b v).category = v.category := by cases v <;> rfl
theorem cv_cats (N b : Nat) (S : List Value) : ((S.map (cv N b)).map fun v => v.category) = S.map fun v => v.category := by
  rw [List.map_map]
  exact List.map_congr_left fun v _ => cv_cat N b v
theorem cv_def (N b : Nat) (ty : FieldType) : cv N b (defaultValue ty) = defaultValue ty := by cases ty <;> rfl
theorem cv_narrow (N b : Nat) (ty : FieldType) (v : Value) (h : narrow ty v = v) : narrow ty (cv N b v) = cv N b v := by
  cases v <;> first | exact h | (cases ty <;> rfl)
theorem cv_fits (N b : Nat) (ty : FieldType) (v : Value) : fits ty (cv N b v) = fits ty v := by
  cases v <;> first | rfl | (cases ty <;> rfl)
def arAt (N b : Nat) (U : State) (a : Nat) (ty : FieldType) (n : Nat) (f : Nat → Value) (H : Heap) : Prop :=
  ∃ cell : Cell, H[a]? = some cell ∧ U.isArrayOf cell ty ∧ cell.vm ≠ .unknown ∧ cell.slots.size = n ∧ (∀ j, j < n → cell.slots[j]? = some (cv N b (f j))) ∧ (ty.isReference = true → va_RA U cell.cls ty)
def obAt (D : va_G) (N b a ci : Nat) (fs : List Value) (H : Heap) : Prop :=
  ∃ r : vw_C, vwCl[ci]? = some r ∧ fs.length = r.2.2 ∧ t_OB a (D.1 ci) r.2.2 (D.2 ci) H (vp_V (fs.map (cv N b)))
def atE (D : va_G) (U : State) (N b a : Nat) (e : AC) (H : Heap) : Prop := match e with
  | .inl (ty, n, f) => arAt N b U a ty n f H
  | .inr (ci, fs) => obAt D N b a ci fs H
def Rel (D : va_G) (U : State) (N b : Nat) (h : AH) (H : Heap) : Prop := b < N ∧ 0 < h.length ∧ H.size + 1 = N + h.length ∧ ∀ (k : Nat) (e : AC), h[k]? = some e → atE D U N b (am N b k) e H
theorem atE.kept {D : va_G} {U : State} {N b a : Nat} {e : AC} {H H1 : Heap} (h : atE D U N b a e H) (hq : H1[a]? = H[a]?) : atE D U N b a e H1 := by
  obtain ⟨ty, n, f⟩ | ⟨ci, fs⟩ := e
  · obtain ⟨cell, h1, h2⟩ := h
    exact ⟨cell, by rw [hq]; exact h1, h2⟩
  · obtain ⟨r, h1, h2, h3⟩ := h
    exact ⟨r, h1, h2, h3.kept hq⟩
theorem atE.moved {D : va_G} {u U : State} {N b a : Nat} {e : AC} {H : Heap} (hvm : u.vm.Alike U.vm) (h : atE D u N b a e H) : atE D U N b a e H := by
  obtain ⟨ty, n, f⟩ | ⟨ci, fs⟩ := e
  · obtain ⟨cell, h1, h2, h3, h4, h5, h6⟩ := h
    exact ⟨cell, h1, State.isArrayOf_alike hvm h2, h3, h4, h5, fun q => (h6 q).moved hvm⟩
  · exact h
theorem Rel.moved {D : va_G} {u U : State} {N b : Nat} {h : AH} {H : Heap} (hvm : u.vm.Alike U.vm) (hR : Rel D u N b h H) : Rel D U N b h H := ⟨hR.1, hR.2.1, hR.2.2.1, fun k e hk => (hR.2.2.2 k e hk).moved hvm⟩
theorem Rel.at {D : va_G} {U : State} {N b : Nat} {h : AH} {H : Heap} (hR : Rel D U N b h H) {k : Nat} {e : AC} (hk : h[k]? = some e) : atE D U N b (am N b k) e H := hR.2.2.2 k e hk
theorem Rel.set {D : va_G} {U : State} {N b : Nat} {h : AH} {H H' : Heap} (hR : Rel D U N b h H) {k : Nat} {e0 e : AC} (hk : h[k]? = some e0) (he : atE D U N b (am N b k) e H') (hz : H'.size = H.size) (ho : ∀ q : Nat, q ≠ am N b k → H'[q]? = H[q]?) : Rel D U N b (h.set k e) H' := by
  have hl := (List.getElem?_eq_some_iff.mp hk).1
  refine ⟨hR.1, by rw [List.length_set]; exact hR.2.1, by rw [hz, List.length_set]; exact hR.2.2.1, fun j e' hj => ?_⟩
  by_cases hjk : j = k
  · subst hjk
    rw [List.getElem?_set_self hl] at hj
    cases hj
    exact he
  · rw [List.getElem?_set_ne (Ne.symm hjk)] at hj
    exact (hR.2.2.2 j e' hj).kept (ho _ fun q => hjk (am_inj hR.1 q))
theorem Rel.end {D : va_G} {U : State} {N b : Nat} {h : AH} {H : Heap} (hR : Rel D U N b h H) : am N b h.length = H.size := by
  obtain ⟨h1, h2, h3, -⟩ := hR
  cases hl : h.length with
  | zero => omega
  | succ k => simp only [am]; omega
theorem Rel.lt {D : va_G} {U : State} {N b : Nat} {h : AH} {H : Heap} (hR : Rel D U N b h H) {k : Nat} (hk : k < h.length) : am N b k < H.size := by
  obtain ⟨h1, h2, h3, -⟩ := hR
  cases k with
  | zero => simp only [am]; omega
  | succ k => simp only [am]; omega
theorem Rel.push {D : va_G} {U : State} {N b : Nat} {h : AH} {H H' : Heap} (hR : Rel D U N b h H) {e : AC} (hz : H'.size = H.size + 1) (ho : ∀ q : Nat, q < H.size → H'[q]? = H[q]?) (he : atE D U N b H.size e H') : Rel D U N b (h ++ [e]) H' := by
  refine ⟨hR.1, by simp, by rw [hz]; have := hR.2.2.1; simp; omega, fun j e' hj => ?_⟩
  by_cases hl : j < h.length
  · rw [List.getElem?_append_left hl] at hj
    exact (hR.2.2.2 j e' hj).kept (ho _ (hR.lt hl))
  · have hj1 := (List.getElem?_eq_some_iff.mp hj).1
    have hj2 : j = h.length := by simp at hj1; omega
    subst hj2
    rw [List.getElem?_append_right (Nat.le_refl _), Nat.sub_self] at hj
    cases hj
    rw [hR.end]
    exact he
/-- how many slots the cells have -/
def szE (e : AC) : Nat := match e with
  | .inl (_, n, _) => n
  | .inr (ci, _) => nSl ci
def sl (h : AH) : Nat := (h.map szE).sum
theorem sl_set {h : AH} : ∀ {k : Nat} {e0 e : AC}, h[k]? = some e0 → szE e = szE e0 → sl (h.set k e) = sl h := by
  induction h with
  | nil => intro k e0 e hk; simp at hk
  | cons x t ih =>
    intro k e0 e hk hs
    cases k with
    | zero =>
      simp at hk
      subst hk
      simp [sl, hs]
    | succ k =>
      simp at hk
      have := ih hk hs
      simp only [sl, List.set_cons_succ, List.map_cons, List.sum_cons] at this ⊢
      omega
theorem sl_push (h : AH) (e : AC) : sl (h ++ [e]) = sl h + szE e := by simp [sl]
theorem sl_nil : sl [] = 0 := rfl
/-! the locals -/
def lR (N b nL : Nat) (ls : Array Slot) (L : AL) : Prop := ls.size = nL ∧ L.length = nL ∧ lv_wf ls ∧ ∀ (i : Nat) (v : Value), L[i]? = some (some v) → ls[i]? = some (.val (cv N b v))
def al (N b : Nat) (L : AL) : List (Nat × Value) := (List.range L.length).filterMap fun i => (L[i]?.getD none).map fun v => (i, cv N b v)
theorem al_mem {N b : Nat} {L : AL} {i : Nat} {x : Value} : (i, x) ∈ al N b L ↔ ∃ v, L[i]? = some (some v) ∧ x = cv N b v := by
  unfold al
  rw [List.mem_filterMap]
  constructor
  · rintro ⟨j, hj, h⟩
    cases hl : L[j]? with
    | none => rw [hl] at h; simp at h
    | some o =>
      rw [hl] at h
      cases o with
      | none => simp at h
      | some v =>
        simp at h
        obtain ⟨rfl, rfl⟩ := h
        exact ⟨v, hl, rfl⟩
  · rintro ⟨v, hv, rfl⟩
    refine ⟨i, List.mem_range.mpr (List.getElem?_eq_some_iff.mp hv).1, ?_⟩
    rw [hv]
    rfl
theorem lR.has {N b nL : Nat} {ls : Array Slot} {L : AL} (h : lR N b nL ls L) : lv_has ls nL (al N b L) := by
  refine ⟨h.1, h.2.2.1, fun q hq => ?_⟩
  obtain ⟨i, x⟩ := q
  obtain ⟨v, hv, rfl⟩ := al_mem.mp hq
  exact h.2.2.2 i v hv
theorem cl1_some {o : Option Value} {w : Value} (h : cl1 o = some w) : o = some w ∧ ¬ w.category = 2 := by
  cases o with
  | none => cases h
  | some v => cases v <;> first | (cases h; done) | (cases h; exact ⟨rfl, by decide⟩) | (cases h; exact ⟨rfl, fun q => by cases q⟩)
theorem st1_spec : ∀ (L : AL) (i : Nat) (v : Value) (L' : AL), st1 L i v = some L' → i < L.length ∧ L'.length = L.length ∧ ∀ (j : Nat) (w : Value), L'[j]? = some (some w) → (j = i ∧ w = v) ∨ (j ≠ i ∧ L[j]? = some (some w) ∧ ¬ (j + 1 = i ∧ w.category = 2)) := by
  intro L
  induction L with
  | nil => intro i v L' h; simp [st1] at h
  | cons o t ih =>
    intro i v L' h
    match i with
    | 0 =>
      simp only [st1, Option.some.injEq] at h
      subst h
      refine ⟨by simp, by simp, fun j w hj => ?_⟩
      cases j with
      | zero => simp at hj; exact Or.inl ⟨rfl, hj.symm⟩
      | succ j => exact Or.inr ⟨by omega, by simpa using hj, by omega⟩
    | 1 =>
      cases t with
      | nil => simp [st1] at h
      | cons o2 t =>
        simp only [st1, Option.some.injEq] at h
        subst h
        refine ⟨by simp, by simp, fun j w hj => ?_⟩
        match j with
        | 0 =>
          simp at hj
          obtain ⟨h1, h2⟩ := cl1_some hj
          exact Or.inr ⟨by omega, by simp [h1], fun q => h2 q.2⟩
        | 1 => simp at hj; exact Or.inl ⟨rfl, hj.symm⟩
        | j + 2 => exact Or.inr ⟨by omega, by simpa using hj, by omega⟩
    | i + 2 =>
      simp only [st1, Option.map_eq_some_iff] at h
      obtain ⟨t', h1, rfl⟩ := h
      obtain ⟨g1, g2, g3⟩ := ih (i + 1) v t' h1
      refine ⟨by simp; omega, by simp [g2], fun j w hj => ?_⟩
      cases j with
      | zero => exact Or.inr ⟨by omega, by simpa using hj, by omega⟩
      | succ j =>
        rcases g3 j w (by simpa using hj) with ⟨a, c⟩ | ⟨a, c, d⟩
        · exact Or.inl ⟨by omega, c⟩
        · exact Or.inr ⟨by omega, by simpa using c, fun q => d ⟨by omega, q.2⟩⟩
theorem st2_spec : ∀ (L : AL) (i : Nat) (v : Value) (L' : AL), st2 L i v = some L' → i + 1 < L.length ∧ L'.length = L.length ∧ ∀ (j : Nat) (w : Value), L'[j]? = some (some w) → (j = i ∧ w = v) ∨ (j ≠ i ∧ j ≠ i + 1 ∧ L[j]? = some (some w) ∧ ¬ (j + 1 = i ∧ w.category = 2)) := by
  intro L
  induction L with
  | nil => intro i v L' h; simp [st2] at h
  | cons o t ih =>
    intro i v L' h
    match i with
    | 0 =>
      cases t with
      | nil => simp [st2] at h
      | cons o2 t =>
        simp only [st2, Option.some.injEq] at h
        subst h
        refine ⟨by simp, by simp, fun j w hj => ?_⟩
        match j with
        | 0 => simp at hj; exact Or.inl ⟨rfl, hj.symm⟩
        | 1 => simp at hj
        | j + 2 => exact Or.inr ⟨by omega, by omega, by simpa using hj, by omega⟩
    | 1 =>
      match t with
      | [] => simp [st2] at h
      | [_] => simp [st2] at h
      | o2 :: o3 :: t =>
        simp only [st2, Option.some.injEq] at h
        subst h
        refine ⟨by simp, by simp, fun j w hj => ?_⟩
        match j with
        | 0 =>
          simp at hj
          obtain ⟨h1, h2⟩ := cl1_some hj
          exact Or.inr ⟨by omega, by omega, by simp [h1], fun q => h2 q.2⟩
        | 1 => simp at hj; exact Or.inl ⟨rfl, hj.symm⟩
        | 2 => simp at hj
        | j + 3 => exact Or.inr ⟨by omega, by omega, by simpa using hj, by omega⟩
    | i + 2 =>
      simp only [st2, Option.map_eq_some_iff] at h
      obtain ⟨t', h1, rfl⟩ := h
      obtain ⟨g1, g2, g3⟩ := ih (i + 1) v t' h1
      refine ⟨by simp; omega, by simp [g2], fun j w hj => ?_⟩
      cases j with
      | zero => exact Or.inr ⟨by omega, by omega, by simpa using hj, by omega⟩
      | succ j =>
        rcases g3 j w (by simpa using hj) with ⟨a, c⟩ | ⟨a, a2, c, d⟩
        · exact Or.inl ⟨by omega, c⟩
        · exact Or.inr ⟨by omega, by omega, by simpa using c, fun q => d ⟨by omega, q.2⟩⟩
theorem lR.st1 {N b nL i : Nat} {ls ls' : Array Slot} {L L' : AL} {v : Value} (h : lR N b nL ls L) (hs : st1 L i v = some L') (hh : lv_has ls' nL ((i, cv N b v) :: (al N b L).filter (fun q => !(q.1 == i) && !(q.1 + 1 == i && q.2.category == 2)))) : lR N b nL ls' L' := by
  obtain ⟨h1, h2, h3⟩ := st1_spec _ _ _ _ hs
  refine ⟨hh.1, h2.trans h.2.1, hh.2.1, fun j w hj => ?_⟩
  rcases h3 j w hj with ⟨rfl, rfl⟩ | ⟨a, c, d⟩
  · exact hh.2.2 (j, cv N b w) List.mem_cons_self
  · refine hh.2.2 (j, cv N b w) (List.mem_cons_of_mem _ (List.mem_filter.mpr ⟨al_mem.mpr ⟨w, c, rfl⟩, ?_⟩))
    simp only [Bool.and_eq_true, Bool.not_eq_true', beq_eq_false_iff_ne, Bool.and_eq_false_iff, cv_cat]
    refine ⟨a, ?_⟩
    by_cases q : j + 1 = i
    · exact Or.inr fun q2 => d ⟨q, q2⟩
    · exact Or.inl q
theorem lR.st2 {N b nL i : Nat} {ls ls' : Array Slot} {L L' : AL} {v : Value} (h : lR N b nL ls L) (hs : st2 L i v = some L') (hh : lv_has ls' nL ((i, cv N b v) :: (al N b L).filter (fun q => !(q.1 == i) && (!(q.1 == i + 1) && !(q.1 + 1 == i && q.2.category == 2))))) : lR N b nL ls' L' := by
  obtain ⟨h1, h2, h3⟩ := st2_spec _ _ _ _ hs
  refine ⟨hh.1, h2.trans h.2.1, hh.2.1, fun j w hj => ?_⟩
  rcases h3 j w hj with ⟨rfl, rfl⟩ | ⟨a, a2, c, d⟩
  · exact hh.2.2 (j, cv N b w) List.mem_cons_self
  · refine hh.2.2 (j, cv N b w) (List.mem_cons_of_mem _ (List.mem_filter.mpr ⟨al_mem.mpr ⟨w, c, rfl⟩, ?_⟩))
    simp only [Bool.and_eq_true, Bool.not_eq_true', beq_eq_false_iff_ne, Bool.and_eq_false_iff, cv_cat]
    refine ⟨a, a2, ?_⟩
    by_cases q : j + 1 = i
    · exact Or.inr fun q2 => d ⟨q, q2⟩
    · exact Or.inl q
/-- the locals with which a method begins -/
theorem len0_at {N b : Nat} : ∀ (vs : List Value) (i0 i : Nat) (v : Value), (len0 vs)[i]? = some (some v) → (i0 + i, cv N b v) ∈ lv_args i0 (vs.map (cv N b)) := by
  intro vs
  induction vs with
  | nil => intro i0 i v h; simp [len0] at h
  | cons w vs ih =>
    intro i0 i v h
    simp only [len0] at h
    simp only [List.map_cons, lv_args, cv_cat]
    by_cases hc : w.category = 2
    · rw [if_pos hc] at h ⊢
      match i with
      | 0 => simp at h; subst h; exact List.mem_cons_self
      | 1 => simp at h
      | i + 2 =>
        have := ih (i0 + 2) i v (by simpa using h)
        rw [show i0 + (i + 2) = i0 + 2 + i by omega]
        exact List.mem_cons_of_mem _ this
    · rw [if_neg hc] at h ⊢
      match i with
      | 0 => simp at h; subst h; exact List.mem_cons_self
      | i + 1 =>
        have := ih (i0 + 1) i v (by simpa using h)
        rw [show i0 + (i + 1) = i0 + 1 + i by omega]
        exact List.mem_cons_of_mem _ this
theorem len0_sl {N b : Nat} : ∀ (vs : List Value), (lg_sl (vs.map (cv N b))).length = (len0 vs).length := by
  intro vs
  induction vs with
  | nil => rfl
  | cons w vs ih =>
    have ih' : (List.flatMap (fun v : Value => if v.category = 2 then [Slot.val v, Slot.second] else [Slot.val v]) (vs.map (cv N b))).length = (len0 vs).length := ih
    simp only [List.map_cons, lg_sl, List.flatMap_cons, len0, cv_cat, List.length_append, ih']
    by_cases hc : w.category = 2
    · simp [hc]; omega
    · simp [hc]; omega
theorem lR_ent {N b m : Nat} (as : List Value) (hle : (len0 as).length ≤ mMax m) : lR N b (mMax m) ((lg_sl (as.map (cv N b)) ++ List.replicate (mMax m - (lg_sl (as.map (cv N b))).length) Slot.unset).toArray) (ent m as) := by
  have h := lv_entry (as.map (cv N b)) (n := mMax m) (by rw [len0_sl]; exact hle)
  refine ⟨h.1, by simp [ent]; omega, h.2.1, fun i v hi => ?_⟩
  have hi2 : (len0 as)[i]? = some (some v) := by
    unfold ent at hi
    by_cases hl : i < (len0 as).length
    · rwa [List.getElem?_append_left hl] at hi
    · rw [List.getElem?_append_right (by omega)] at hi
      have := List.mem_of_getElem? hi
      have := List.eq_of_mem_replicate this
      cases this
  have := h.2.2 _ (len0_at (N := N) (b := b) as 0 i v hi2)
  simpa using this
