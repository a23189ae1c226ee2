/-! ===== What work in units does to the bytes ===== -/
theorem spd_cells (f : FB) : (spd f).2.1 = f.1 ∧ (spd f).2.2.1 = f.2.1 := by
  unfold spd
  split
  · exact ⟨rfl, rfl⟩
  · split <;> exact ⟨rfl, rfl⟩
/-- the first k of these values stand from a on -/
def wC (cl : Nat → Int32) (a : Nat) (vs : List Int32) (k : Nat) : Nat → Int32 := fun j => if a ≤ j ∧ j < a + k then vs.getD (j - a) 0 &&& 255 else cl j
theorem wC_0 (cl : Nat → Int32) (a : Nat) (vs : List Int32) : wC cl a vs 0 = cl := by
  funext j
  unfold wC
  rw [if_neg (by omega)]
theorem wC_cons (cl : Nat → Int32) (a : Nat) (v : Int32) (vs : List Int32) (k : Nat) : wC (upd cl a (v &&& 255)) (a + 1) vs k = wC cl a (v :: vs) (k + 1) := by
  funext j
  unfold wC upd
  by_cases h1 : a + 1 ≤ j ∧ j < a + 1 + k
  · rw [if_pos h1, if_pos (by omega), show j - a = (j - (a + 1)) + 1 by omega, List.getD_cons_succ]
  · rw [if_neg h1]
    by_cases h2 : j = a
    · subst h2
      rw [if_pos rfl, if_pos (by omega), Nat.sub_self, List.getD_cons_zero]
    · rw [if_neg h2, if_neg (by omega)]
theorem prg_cells (f : FB) (a : Nat) (v : Int32) : ((prg f a v).1 = true ∧ (prg f a v).2.1 = upd f.1 a (v &&& 255)) ∨ ((prg f a v).1 = false ∧ (prg f a v).2.1 = f.1) := by
  unfold prg
  cases h : (spd f).1 with
  | true => exact Or.inl ⟨rfl, by rw [if_pos rfl, (spd_cells f).1]⟩
  | false => exact Or.inr ⟨rfl, by rw [if_neg (by decide), (spd_cells f).1]⟩
theorem wr_cells : ∀ (vs : List Int32) (f : FB) (a : Nat), ∃ k, k ≤ vs.length ∧ (wr f a vs).2.1 = wC f.1 a vs k ∧ ((wr f a vs).1 = true → k = vs.length) ∧ ((wr f a vs).1 = false → k < vs.length) := by
  intro vs
  induction vs with
  | nil => intro f a; exact ⟨0, Nat.le_refl _, by rw [wC_0]; rfl, fun _ => rfl, fun h => by cases h⟩
  | cons v vs ih =>
    intro f a
    rcases prg_cells f a v with ⟨h1, h2⟩ | ⟨h1, h2⟩
    · obtain ⟨k, k1, k2, k3, k4⟩ := ih (prg f a v).2 (a + 1)
      have e : wr f a (v :: vs) = wr (prg f a v).2 (a + 1) vs := by simp only [wr, h1, if_true]
      rw [e]
      refine ⟨k + 1, by simpa using k1, by rw [k2, h2, wC_cons], fun h => by simp [k3 h], fun h => by have := k4 h; simpa using this⟩
    · have e : wr f a (v :: vs) = (false, (prg f a v).2) := by simp [wr, h1]
      rw [e]
      exact ⟨0, Nat.zero_le _, by rw [wC_0]; exact h2, fun h => (by cases h), fun _ => by simp⟩
theorem ers_cells (f : FB) (b : Nat) : ((ers f b).1 = true ∧ (ers f b).2.1 = ersC f.1 b 64) ∨ ((ers f b).1 = false ∧ (ers f b).2.1 = f.1) := by
  unfold ers
  cases h : (spd f).1 with
  | true => exact Or.inl ⟨rfl, by rw [if_pos rfl, (spd_cells f).1]⟩
  | false => exact Or.inr ⟨rfl, by rw [if_neg (by decide), (spd_cells f).1]⟩
/-- power: a failure leaves it off -/
theorem spd_dark (f : FB) : ((spd f).1 = false → (spd f).2.2.2.2.2 = true) ∧ ((spd f).1 = true → (spd f).2.2.2.2.2 = false) := by
  unfold spd
  split
  · exact ⟨fun _ => rfl, fun h => by cases h⟩
  · split
    · rename_i h; exact ⟨fun _ => h, fun h => by cases h⟩
    · rename_i h; exact ⟨(fun h => by cases h), fun _ => by simpa using h⟩
theorem prg_dark (f : FB) (a : Nat) (v : Int32) : ((prg f a v).1 = false → (prg f a v).2.2.2.2.2 = true) ∧ ((prg f a v).1 = true → (prg f a v).2.2.2.2.2 = false) := by
  unfold prg
  cases h : (spd f).1 with
  | true => exact ⟨fun h9 => by simp at h9, fun _ => (spd_dark f).2 h⟩
  | false => exact ⟨fun _ => (spd_dark f).1 h, fun h9 => by simp at h9⟩
theorem ers_dark (f : FB) (b : Nat) : ((ers f b).1 = false → (ers f b).2.2.2.2.2 = true) ∧ ((ers f b).1 = true → (ers f b).2.2.2.2.2 = false) := by
  unfold ers
  cases h : (spd f).1 with
  | true => exact ⟨fun h9 => by simp at h9, fun _ => (spd_dark f).2 h⟩
  | false => exact ⟨fun _ => (spd_dark f).1 h, fun h9 => by simp at h9⟩
theorem wr_dark : ∀ (vs : List Int32) (f : FB) (a : Nat), ((wr f a vs).1 = false → (wr f a vs).2.2.2.2.2 = true) ∧ ((wr f a vs).1 = true → f.2.2.2.2 = false → (wr f a vs).2.2.2.2.2 = false) := by
  intro vs
  induction vs with
  | nil => intro f a; exact ⟨(fun h => by cases h), fun _ h => h⟩
  | cons v vs ih =>
    intro f a
    cases h : (prg f a v).1 with
    | true =>
      have e : wr f a (v :: vs) = wr (prg f a v).2 (a + 1) vs := by simp only [wr, h, if_true]
      rw [e]
      exact ⟨(ih _ _).1, fun h1 _ => (ih _ _).2 h1 ((prg_dark f a v).2 h)⟩
    | false =>
      have e : wr f a (v :: vs) = (false, (prg f a v).2) := by simp [wr, h]
      rw [e]
      exact ⟨fun _ => (prg_dark f a v).1 h, fun h9 => by cases h9⟩
theorem anW_dark (f : FB) (b : Nat) (rev : Int32) (bs : List Int32) : ((anW f b rev bs).1 = false → (anW f b rev bs).2.2.2.2.2 = true) ∧ ((anW f b rev bs).1 = true → (anW f b rev bs).2.2.2.2.2 = false) := by
  unfold anW
  cases h : (ers f b).1 with
  | true => exact ⟨(wr_dark _ _ _).1, fun h1 => (wr_dark _ _ _).2 h1 ((ers_dark f b).2 h)⟩
  | false => exact ⟨fun _ => (ers_dark f b).1 h, fun h9 => by simp at h9⟩
theorem anF_dark (f : FB) (q : Nat) (ob : Option Nat) (bs : List Int32) : ((anF f q ob bs).1 = false → (anF f q ob bs).2.2.2.2.2 = true) ∧ ((anF f q ob bs).1 = true → (anF f q ob bs).2.2.2.2.2 = false) := by
  cases ob <;> exact anW_dark _ _ _ _
theorem cmF_dark (f : FB) (b : Nat) (bs : List Int32) (st : Lst) (hd : f.2.2.2.2 = false) : ((cmF f b bs st).1 = false → (cmF f b bs st).2.2.2.2.2 = true) ∧ ((cmF f b bs st).1 = true → (cmF f b bs st).2.2.2.2.2 = false) := by
  unfold cmF
  split
  · exact ⟨(wr_dark _ _ _).1, fun h => (wr_dark _ _ _).2 h hd⟩
  · exact anF_dark _ _ _ _
/-! bytes stay bytes -/
theorem mask_byte (v : Int32) : ∃ k, k < 256 ∧ v &&& 255 = nI k := pk_andE v (m := 255) 8 (by decide)
theorem nI_mask {k : Nat} (h : k < 256) : nI k &&& 255 = nI k := by
  have e := pk_andN (n := k) (show k < 2 ^ 32 by omega) (m := 255) 8 (by decide)
  rw [e]
  congr 1
  omega
theorem BOk_of {f : FB} (h : ∀ j, j < 1024 → ∃ k, k < 256 ∧ f.1 j = nI k) : BOk f := by
  intro j hj
  obtain ⟨k, h1, h2⟩ := h j hj
  have e : gB f j = k := by unfold gB; rw [h2, nI_clamp (by omega)]
  rw [e]
  exact ⟨h2, h1⟩
theorem BOk.at {f : FB} (h : BOk f) {j : Nat} (hj : j < 1024) : ∃ k, k < 256 ∧ f.1 j = nI k := ⟨gB f j, (h j hj).2, (h j hj).1⟩
theorem BOk_wr {f : FB} (h : BOk f) (a : Nat) (vs : List Int32) : BOk (wr f a vs).2 := by
  obtain ⟨k, -, h2, -⟩ := wr_cells vs f a
  refine BOk_of fun j hj => ?_
  rw [h2]
  unfold wC
  split
  · exact mask_byte _
  · exact h.at hj
theorem BOk_ers {f : FB} (h : BOk f) (b : Nat) : BOk (ers f b).2 := by
  refine BOk_of fun j hj => ?_
  rcases ers_cells f b with ⟨-, h2⟩ | ⟨-, h2⟩ <;> rw [h2]
  · unfold ersC
    split
    · exact ⟨255, by decide, rfl⟩
    · exact h.at hj
  · exact h.at hj
theorem BOk_anW {f : FB} (h : BOk f) (b : Nat) (rev : Int32) (bs : List Int32) : BOk (anW f b rev bs).2 := by
  unfold anW
  split
  · exact BOk_wr (BOk_ers h b) _ _
  · exact BOk_ers h b
theorem BOk_anF {f : FB} (h : BOk f) (q : Nat) (ob : Option Nat) (bs : List Int32) : BOk (anF f q ob bs).2 := by
  cases ob <;> exact BOk_anW h _ _ _
theorem BOk_cmF {f : FB} (h : BOk f) (b : Nat) (bs : List Int32) (st : Lst) : BOk (cmF f b bs st).2 := by
  unfold cmF
  split
  · exact BOk_wr h _ _
  · exact BOk_anF h _ _ _
/-! what lies in a block depends on its bytes alone -/
def SameB (f g : FB) (b : Nat) : Prop := ∀ o, o < 64 → g.1 (b * 64 + o) = f.1 (b * 64 + o)
theorem same_gB {f g : FB} {b o : Nat} (h : SameB f g b) (ho : o < 64) : gB g (b * 64 + o) = gB f (b * 64 + o) := by
  unfold gB
  rw [h o ho]
theorem same_nx {f g : FB} {b e : Nat} (h : SameB f g b) : nx g b e = nx f b e := by
  unfold nx
  by_cases he : e < 64
  · rw [same_gB h he]
    by_cases h2 : e + 1 + gB f (b * 64 + e) < 64
    · rw [same_gB h h2]
    · rw [if_neg (fun q => h2 q.2.1), if_neg (fun q => h2 q.2.1)]
  · rw [if_neg (fun q => he q.1), if_neg (fun q => he q.1)]
theorem same_rb {f g : FB} {b e n : Nat} (h : SameB f g b) (hn : e + n ≤ 64) : rb g (b * 64 + e) n = rb f (b * 64 + e) n := by
  unfold rb
  refine List.map_congr_left fun i hi => ?_
  have := List.mem_range.mp hi
  rw [show b * 64 + e + i = b * 64 + (e + i) by omega]
  exact h _ (by omega)
theorem same_LgR {f g : FB} {b : Nat} (h : SameB f g b) : ∀ (rs : List (List Opn)) (e : Nat), LgR f b e rs → LgR g b e rs := by
  intro rs
  induction rs with
  | nil => intro e hG; exact (same_nx h).trans hG
  | cons os rs ih =>
    intro e hG
    obtain ⟨⟨g1, g2, g3⟩, g4⟩ := hG
    have := nx_lt g3
    refine ⟨⟨by rw [same_gB h (by omega)]; exact g1, ?_, by rw [same_nx h]; exact g3⟩, ih _ g4⟩
    rw [show b * 64 + e + 1 = b * 64 + (e + 1) by omega, same_rb h (by omega), ← show b * 64 + e + 1 = b * 64 + (e + 1) by omega]
    exact g2
