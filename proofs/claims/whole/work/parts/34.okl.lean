/-! ===== Good lists ===== -/
def OkV (e : En) : Prop := e.2.1 = 1 → ∃ xs : List Nat, xs.length = e.2.2.1 ∧ (∀ x ∈ xs, x < 256) ∧ e.2.2.2 = vB xs
def OkM (mk : Option (Nat × Nat)) : Prop := ∀ p, mk = some p → p.1 < 8 ∧ 1 ≤ p.2 ∧ p.2 ≤ 99
def OkL (st : Lst) : Prop := st.1.length ≤ 4 ∧ (∀ e ∈ st.1, OkE e ∧ OkV e) ∧ (st.1.map fun e => e.1).Nodup ∧ OkM st.2
theorem OkL_nil : OkL nilL := ⟨by decide, (fun e h => by cases h), by simp [nilL], (fun p h => by cases h)⟩
theorem fiA_none : ∀ (t : List En) (k : Nat) (x : Int32), fiA t k x = none ↔ ∀ e ∈ t, ¬ nI e.1 = x := by
  intro t
  induction t with
  | nil => intro k x; simp [fiA]
  | cons e t ih =>
    intro k x
    unfold fiA
    split
    · rename_i h
      simp [h]
    · rename_i h
      rw [ih]
      simp [h]
theorem fiE_none {es : List En} {x : Int32} : fiE es x = none ↔ ∀ e ∈ es, ¬ nI e.1 = x := fiA_none es 0 x
theorem putE_ok {es : List En} {e : En} (h4 : es.length ≤ 4) (hok : ∀ x ∈ es, OkE x ∧ OkV x) (hnd : (es.map fun x => x.1).Nodup) (he : OkE e ∧ OkV e) (hf : fiE es (nI e.1) = none → es.length < 4) : (putE es e).length ≤ 4 ∧ (∀ x ∈ putE es e, OkE x ∧ OkV x) ∧ ((putE es e).map fun x => x.1).Nodup := by
  unfold putE
  cases hx : fiE es (nI e.1) with
  | some k =>
    obtain ⟨hk, y, hy, hn⟩ := fiE_lt hx
    have hyo := (hok y (List.mem_of_getElem? hy)).1
    have hne : y.1 = e.1 := (nI_eq (by have := hyo.2.1; omega) (by have := he.1.2.1; omega)).mp hn
    refine ⟨by simpa using h4, fun x hm => ?_, ?_⟩
    · rcases List.mem_or_eq_of_mem_set hm with h9 | h9
      · exact hok x h9
      · rw [h9]; exact he
    · have : (es.set k e).map (fun x => x.1) = es.map fun x => x.1 := by
        apply List.ext_getElem?
        intro i
        rw [List.getElem?_map, List.getElem?_map]
        by_cases hik : i = k
        · subst hik
          rw [List.getElem?_set_self hk, hy]
          simp [hne]
        · rw [List.getElem?_set_ne (Ne.symm hik)]
      rw [this]
      exact hnd
  | none =>
    have h5 := hf hx
    refine ⟨by simp; omega, fun x hm => ?_, ?_⟩
    · rcases List.mem_append.mp hm with h9 | h9
      · exact hok x h9
      · simp at h9; rw [h9]; exact he
    · rw [List.map_append, List.nodup_append]
      refine ⟨hnd, by simp, fun a ha b hb => ?_⟩
      simp at hb
      subst hb
      obtain ⟨y, hy, rfl⟩ := List.mem_map.mp ha
      intro e9
      exact fiE_none.mp hx y hy (by rw [e9])
theorem goneE_ok {es : List En} {a : Nat} (h4 : es.length ≤ 4) (hok : ∀ x ∈ es, OkE x ∧ OkV x) (hnd : (es.map fun x => x.1).Nodup) : (goneE es a).length ≤ 4 ∧ (∀ x ∈ goneE es a, OkE x ∧ OkV x) ∧ ((goneE es a).map fun x => x.1).Nodup := by
  unfold goneE
  cases hx : fiE es (nI a) with
  | none => exact ⟨h4, hok, hnd⟩
  | some k =>
    have hs : (es.eraseIdx k).Sublist es := List.eraseIdx_sublist es k
    exact ⟨Nat.le_trans hs.length_le h4, fun x hm => hok x (hs.subset hm), (hs.map _).nodup hnd⟩
theorem OkL_apO {st : Lst} {o : Opn} (h : OkL st) (ho : OkO o) (hf : FitO st o) : OkL (apO st o) := by
  obtain ⟨h4, hok, hnd, hm⟩ := h
  obtain ⟨k, a, b, xs⟩ := o
  rcases ho with ⟨hk, h1, h2, h3, h5⟩ | ⟨hk, h1, h2, h3⟩ | ⟨hk, h2⟩ | ⟨hk, h1, h2, h3⟩ | hk
  · dsimp only at hk h1 h2 h3 h5
    subst hk
    obtain ⟨r1, r2, r3⟩ := putE_ok (e := (a, 1, xs.length, vB xs)) h4 hok hnd ⟨⟨h1, h2, Or.inl ⟨rfl, h3⟩⟩, fun _ => ⟨xs, rfl, h5, rfl⟩⟩ (hf (Or.inl rfl))
    exact ⟨r1, r2, r3, hm⟩
  · dsimp only at hk h1 h2 h3
    subst hk
    obtain ⟨r1, r2, r3⟩ := putE_ok (e := (a, 2, b, 0)) h4 hok hnd ⟨⟨h1, h2, Or.inr ⟨rfl, h3, rfl⟩⟩, fun h9 => by cases h9⟩ (hf (Or.inr rfl))
    exact ⟨r1, r2, r3, hm⟩
  · dsimp only at hk
    subst hk
    obtain ⟨r1, r2, r3⟩ := goneE_ok (a := a) h4 hok hnd
    exact ⟨r1, r2, r3, hm⟩
  · dsimp only at hk h1 h2 h3
    subst hk
    exact ⟨h4, hok, hnd, fun p hp => by cases hp; exact ⟨h1, h2, h3⟩⟩
  · dsimp only at hk
    subst hk
    exact ⟨h4, hok, hnd, fun p hp => by cases hp⟩
theorem OkL_apS : ∀ (os : List Opn) (st : Lst), OkL st → FitS st os → OkL (apS st os) := by
  intro os
  induction os with
  | nil => intro st h _; exact h
  | cons o os ih =>
    intro st h hF
    exact ih (apO st o) (OkL_apO h hF.1.1 hF.1.2) hF.2
def enOp (e : En) : Opn := if e.2.1 = 2 then (2, e.1, e.2.2.1, []) else (1, e.1, 0, nbs e.2.2.2 e.2.2.1)
def mkOp (mk : Option (Nat × Nat)) : List Opn := match mk with
  | none => []
  | some p => [(4, p.1, p.2, [])]
def opsL (st : Lst) : List Opn := st.1.map enOp ++ mkOp st.2
theorem enOp_enc {e : En} (h : OkE e) : encO (enOp e) = encE e (nI e.1) := by
  unfold enOp encE
  obtain ⟨-, -, h | h⟩ := h
  · rw [if_neg (by omega), if_neg (by omega)]
    simp only [encO, nbs_len, nbs_map]
  · rw [if_pos h.1, if_pos h.1]
    rfl
theorem opsL_enc {st : Lst} (h : OkL st) : encS (opsL st) = encL st := by
  unfold opsL encL encS
  rw [List.flatMap_append]
  congr 1
  · rw [List.flatMap_map]
    have : ∀ t : List En, (∀ e ∈ t, OkE e) → t.flatMap (fun e => encO (enOp e)) = t.flatMap fun e => encE e (nI e.1) := by
      intro t
      induction t with
      | nil => intro _; rfl
      | cons e t ih =>
        intro h9
        rw [List.flatMap_cons, List.flatMap_cons, enOp_enc (h9 e List.mem_cons_self), ih (fun x hx => h9 x (List.mem_cons_of_mem _ hx))]
    exact this _ fun e he => (h.2.1 e he).1
  · unfold mkOp encM
    cases st.2 <;> rfl
theorem apO_enOp {pre : List En} {e : En} {mk : Option (Nat × Nat)} (h : OkE e ∧ OkV e) (hn : fiE pre (nI e.1) = none) : apO (pre, mk) (enOp e) = (pre ++ [e], mk) := by
  obtain ⟨⟨-, -, h1 | h1⟩, h2⟩ := h
  · obtain ⟨xs, x1, x2, x3⟩ := h2 h1.1
    have e1 : enOp e = (1, e.1, 0, xs) := by
      unfold enOp
      rw [if_neg (by omega), x3, ← x1, nbs_vB x2 (by omega)]
    have e2 : ((e.1, 1, xs.length, vB xs) : En) = e := by
      obtain ⟨a, b, c, d⟩ := e
      dsimp only at h1 x1 x3 ⊢
      rw [h1.1, x1, x3]
    rw [e1]
    show (putE pre (e.1, 1, xs.length, vB xs), mk) = _
    rw [e2]
    unfold putE
    rw [hn]
  · have e1 : enOp e = (2, e.1, e.2.2.1, []) := by
      unfold enOp
      rw [if_pos h1.1]
    have e2 : ((e.1, 2, e.2.2.1, 0) : En) = e := by
      obtain ⟨a, b, c, d⟩ := e
      dsimp only at h1 ⊢
      rw [h1.1, h1.2.2]
    rw [e1]
    show (putE pre (e.1, 2, e.2.2.1, 0), mk) = _
    rw [e2]
    unfold putE
    rw [hn]
theorem enOp_ok {e : En} (h : OkE e ∧ OkV e) : OkO (enOp e) := by
  unfold enOp
  obtain ⟨⟨a1, a2, h1 | h1⟩, h2⟩ := h
  · rw [if_neg (by omega)]
    exact Or.inl ⟨rfl, a1, a2, by rw [nbs_len]; exact h1.2, nbs_lt _ _⟩
  · rw [if_pos h1.1]
    exact Or.inr (Or.inl ⟨rfl, a1, a2, h1.2.1⟩)
theorem enOp_name (e : En) : (enOp e).2.1 = e.1 := by unfold enOp; split <;> rfl
theorem ops_make : ∀ (t pre : List En), (∀ e ∈ t, OkE e ∧ OkV e) → (pre ++ t).length ≤ 4 → ((pre ++ t).map fun e => e.1).Nodup → (∀ e ∈ pre, OkE e) → apS (pre, none) (t.map enOp) = (pre ++ t, none) ∧ FitS (pre, none) (t.map enOp) := by
  intro t
  induction t with
  | nil => intro pre _ _ _ _; simp [apS, FitS]
  | cons e t ih =>
    intro pre hok h4 hnd hpre
    have he := hok e List.mem_cons_self
    have hn : fiE pre (nI e.1) = none := by
      rw [fiE_none]
      intro x hx hxe
      have hx2 : x.1 = e.1 := (nI_eq (by have := (hpre x hx).2.1; omega) (by have := he.1.2.1; omega)).mp hxe
      rw [List.map_append, List.nodup_append] at hnd
      exact hnd.2.2 x.1 (List.mem_map.mpr ⟨x, hx, rfl⟩) e.1 (by simp) hx2
    have e1 := apO_enOp (mk := none) he hn
    obtain ⟨r1, r2⟩ := ih (pre ++ [e]) (fun x hx => hok x (List.mem_cons_of_mem _ hx)) (by simpa using h4) (by simpa using hnd) (fun x hx => by
      rcases List.mem_append.mp hx with h9 | h9
      · exact hpre x h9
      · simp at h9; rw [h9]; exact he.1)
    constructor
    · rw [List.map_cons]
      show apS (apO (pre, none) (enOp e)) (t.map enOp) = _
      rw [e1, r1]
      simp
    · refine ⟨⟨enOp_ok he, fun _ _ => ?_⟩, ?_⟩
      · simp at h4
        show pre.length < 4
        omega
      · rw [e1]
        exact r2
/-- the operations that make a good list do so -/
theorem opsL_make {st : Lst} (h : OkL st) : apS nilL (opsL st) = st ∧ FitS nilL (opsL st) := by
  obtain ⟨h4, hok, hnd, hm⟩ := h
  obtain ⟨r1, r2⟩ := ops_make st.1 [] hok (by simpa using h4) (by simpa using hnd) (fun e h => by cases h)
  unfold opsL
  rw [apS_app, FitS_app]
  have r1' : apS nilL (st.1.map enOp) = (st.1, none) := r1
  rw [r1']
  obtain ⟨es, mk⟩ := st
  cases mk with
  | none => exact ⟨rfl, r2, trivial⟩
  | some p =>
    obtain ⟨m1, m2, m3⟩ := hm p rfl
    exact ⟨rfl, r2, ⟨Or.inr (Or.inr (Or.inr (Or.inl ⟨rfl, m1, m2, m3⟩))), fun h9 => by rcases h9 with h9 | h9 <;> cases h9⟩, trivial⟩
/-! bytes -/
theorem Byt_app {a b : List Int32} (ha : Byt a) (hb : Byt b) : Byt (a ++ b) := by
  intro i hi
  rw [List.getD_eq_getElem?_getD]
  by_cases h : i < a.length
  · rw [List.getElem?_append_left h, ← List.getD_eq_getElem?_getD]
    exact ha i h
  · rw [List.getElem?_append_right (by omega), ← List.getD_eq_getElem?_getD]
    exact hb _ (by rw [List.length_append] at hi; omega)
theorem Byt_map {xs : List Nat} (h : ∀ x ∈ xs, x < 256) : Byt (xs.map nI) := by
  intro i hi
  rw [List.length_map] at hi
  refine ⟨xs[i], h _ (List.getElem_mem hi), ?_⟩
  rw [List.getD_eq_getElem?_getD, List.getElem?_map, List.getElem?_eq_getElem hi]
  rfl
theorem Byt_encO {o : Opn} (h : OkO o) : Byt (encO o) := by
  obtain ⟨k, a, b, xs⟩ := o
  have e : ∀ n : Nat, n < 256 → ∃ k, k < 256 ∧ nI n = nI k := fun n hn => ⟨n, hn, rfl⟩
  rcases h with ⟨hk, h1, h2, h3, h5⟩ | ⟨hk, h1, h2, h3⟩ | ⟨hk, h2⟩ | ⟨hk, h1, h2, h3⟩ | hk
  · dsimp only at hk h1 h2 h3 h5
    subst hk
    have : encO (1, a, b, xs) = [1, a, xs.length].map nI ++ xs.map nI := rfl
    rw [this]
    exact Byt_app (Byt_map (by simp; omega)) (Byt_map h5)
  · dsimp only at hk h1 h2 h3
    subst hk
    exact Byt_map (xs := [2, a, b]) (by simp; omega)
  · dsimp only at hk h2
    subst hk
    exact Byt_map (xs := [3, a]) (by simp; omega)
  · dsimp only at hk h1 h2 h3
    subst hk
    exact Byt_map (xs := [4, a, b]) (by simp; omega)
  · dsimp only at hk
    subst hk
    exact Byt_map (xs := [5]) (by simp)
theorem Byt_encS : ∀ (os : List Opn) (st : Lst), FitS st os → Byt (encS os) := by
  intro os
  induction os with
  | nil => intro st _ i hi; simp [encS] at hi
  | cons o os ih =>
    intro st h
    have : encS (o :: os) = encO o ++ encS os := rfl
    rw [this]
    exact Byt_app (Byt_encO h.1.1) (ih _ h.2)
