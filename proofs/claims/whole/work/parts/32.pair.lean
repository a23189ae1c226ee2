/-! ===== A pair of blocks: its log, kept by every commit ===== -/
def TailOK (f : FB) (b e : Nat) : Prop := e < 64 → f.1 (b * 64 + e) = 255 → ∀ k, e ≤ k → k < 64 → f.1 (b * 64 + k) = 255
def BlkOK (f : FB) (q b : Nat) (rs : List (List Opn)) : Prop := (b = 2 * q ∨ b = 2 * q + 1) ∧ rs ≠ [] ∧ LgR f b 1 rs ∧ FitS nilL rs.flatten ∧ TailOK f b (lgE 1 rs) ∧ (nx f (oth b) 1 = none ∨ gB f (b * 64) = (gB f (oth b * 64) + 1) % 256)
def PI (f : FB) (q : Nat) (o : Option Lst) : Prop := match o with
  | none => nx f (2 * q) 1 = none ∧ nx f (2 * q + 1) 1 = none
  | some st => ∃ b rs, BlkOK f q b rs ∧ st = apS nilL rs.flatten
theorem oth_of {q b : Nat} (h : b = 2 * q ∨ b = 2 * q + 1) : (b = 2 * q → oth b = 2 * q + 1) ∧ (b = 2 * q + 1 → oth b = 2 * q) := by
  unfold oth
  refine ⟨fun h1 => ?_, fun h1 => ?_⟩
  · rw [if_pos (by omega)]; omega
  · rw [if_neg (by omega)]; omega
theorem LgR_some {f : FB} {b e : Nat} {rs : List (List Opn)} (h : LgR f b e rs) (hr : rs ≠ []) : (nx f b e).isSome = true := by
  cases rs with
  | nil => exact absurd rfl hr
  | cons os rs => rw [h.1.2.2]; rfl
theorem act_of {f : FB} (hB : BOk f) {q b : Nat} {rs : List (List Opn)} (hq : q < 8) (h : BlkOK f q b rs) : act f q = some b := by
  obtain ⟨h1, h2, h3, -, -, h6⟩ := h
  have h7 := LgR_some h3 h2
  obtain ⟨o1, o2⟩ := oth_of h1
  rcases h1 with h1 | h1
  · have e := o1 h1
    rw [e] at h6
    rw [h1] at h7 h6
    unfold act
    rw [if_pos h7]
    rcases h6 with h6 | h6
    · rw [h6, if_neg (by simp), h1]
    · split
      · rw [if_neg, h1]
        have g1 := (hB ((2 * q + 1) * 64) (by omega)).2
        have g2 := (hB (2 * q * 64) (by omega)).2
        unfold newer
        rw [Bool.and_eq_true, decide_eq_true_eq, decide_eq_true_eq]
        omega
      · rw [h1]
  · have e := o2 h1
    rw [e] at h6
    rw [h1] at h7 h6
    unfold act
    rcases h6 with h6 | h6
    · rw [h6, if_neg (by simp), if_pos h7, h1]
    · split
      · rw [if_pos, h1]
        have g1 := (hB ((2 * q + 1) * 64) (by omega)).2
        have g2 := (hB (2 * q * 64) (by omega)).2
        unfold newer
        rw [Bool.and_eq_true, decide_eq_true_eq, decide_eq_true_eq]
        omega
      · rw [h1]
theorem act_none {f : FB} {q : Nat} (h : PI f q none) : act f q = none := by
  unfold act
  rw [h.1, h.2]
  rfl
theorem PI.ld {f : FB} (hB : BOk f) {q : Nat} (hq : q < 8) {o : Option Lst} (h : PI f q o) : LdR f q (o.getD nilL) := by
  cases o with
  | none => exact Or.inl ⟨act_none h, rfl⟩
  | some st =>
    obtain ⟨b, rs, hb, rfl⟩ := h
    exact Or.inr ⟨b, rs, act_of hB hq hb, hb.2.2.1, hb.2.2.2.1, rfl⟩
/-- other pairs' work leaves a pair as it is -/
theorem PI.same {f g : FB} {q : Nat} {o : Option Lst} (h1 : SameB f g (2 * q)) (h2 : SameB f g (2 * q + 1)) (h : PI f q o) : PI g q o := by
  cases o with
  | none => exact ⟨(same_nx h1).trans h.1, (same_nx h2).trans h.2⟩
  | some st =>
    obtain ⟨b, rs, ⟨b1, b2, b3, b4, b5, b6⟩, e⟩ := h
    have hb : SameB f g b ∧ SameB f g (oth b) := by
      obtain ⟨o1, o2⟩ := oth_of b1
      rcases b1 with h9 | h9
      · rw [o1 h9, h9]; exact ⟨h1, h2⟩
      · rw [o2 h9, h9]; exact ⟨h2, h1⟩
    refine ⟨b, rs, ⟨b1, b2, same_LgR hb.1 _ _ b3, b4, fun he h9 k hk1 hk2 => ?_, ?_⟩, e⟩
    · rw [hb.1 _ hk2]
      exact b5 he (by rw [← hb.1 _ he]; exact h9) k hk1 hk2
    · rw [same_nx hb.2, show b * 64 = b * 64 + 0 by omega, show oth b * 64 = oth b * 64 + 0 by omega, same_gB hb.1 (by omega), same_gB hb.2 (by omega)]
      exact b6
theorem wC_out {cl : Nat → Int32} {a : Nat} {vs : List Int32} {k j : Nat} (h : j < a ∨ a + k ≤ j) : wC cl a vs k j = cl j := by
  unfold wC
  rw [if_neg (by omega)]
theorem wC_in {cl : Nat → Int32} {a : Nat} {vs : List Int32} {k j : Nat} (h : j < k) : wC cl a vs k (a + j) = vs.getD j 0 &&& 255 := by
  unfold wC
  rw [if_pos (by omega), show a + j - a = j by omega]
/-- the bytes of operations are bytes -/
def Byt (bs : List Int32) : Prop := ∀ i, i < bs.length → ∃ k, k < 256 ∧ bs.getD i 0 = nI k
theorem rec_getD {bs : List Int32} {i : Nat} (hi : i < bs.length) : (nI bs.length :: (bs ++ [0])).getD (i + 1) 0 = bs.getD i 0 := by
  rw [List.getD_cons_succ, List.getD_eq_getElem?_getD, List.getElem?_append_left hi, ← List.getD_eq_getElem?_getD]
theorem rec_seal {bs : List Int32} : (nI bs.length :: (bs ++ [0])).getD (bs.length + 1) 0 = 0 := by
  rw [List.getD_cons_succ, List.getD_eq_getElem?_getD, List.getElem?_append_right (Nat.le_refl _)]
  simp
/-- a record that was programmed whole -/
theorem rec_whole {f g : FB} {b e : Nat} {bs : List Int32} (hby : Byt bs) (hn : e + bs.length + 2 ≤ 64) (hg : ∀ j, j < bs.length + 2 → g.1 (b * 64 + e + j) = (nI bs.length :: (bs ++ [0])).getD j 0 &&& 255) : RecAt g b e bs := by
  have h0 : g.1 (b * 64 + e) = nI bs.length := by
    have := hg 0 (by omega)
    rw [Nat.add_zero] at this
    rw [this]
    exact nI_mask (by omega)
  have e0 : gB g (b * 64 + e) = bs.length := by unfold gB; rw [h0, nI_clamp (by omega)]
  refine ⟨e0, ?_, ?_⟩
  · apply List.ext_getElem?
    intro i
    by_cases hi : i < bs.length
    · unfold rb
      rw [List.getElem?_map, List.getElem?_range hi]
      have := hg (i + 1) (by omega)
      rw [rec_getD hi] at this
      obtain ⟨k, hk, hk2⟩ := hby i hi
      rw [hk2, nI_mask hk, ← hk2] at this
      simp only [Option.map_some]
      rw [show b * 64 + e + 1 + i = b * 64 + e + (i + 1) by omega, this, List.getD_eq_getElem?_getD, List.getElem?_eq_getElem hi]
      rfl
    · rw [List.getElem?_eq_none (by rw [rb_len]; omega), List.getElem?_eq_none (by omega)]
  · have := hg (bs.length + 1) (by omega)
    rw [rec_seal] at this
    have e1 : gB g (b * 64 + (e + 1 + bs.length)) = 0 := by
      unfold gB
      rw [show b * 64 + (e + 1 + bs.length) = b * 64 + e + (bs.length + 1) by omega, this]
      decide
    unfold nx
    rw [e0, if_pos ⟨by omega, by omega, e1⟩]
    congr 1
    omega
/-- a record that was programmed in part, over erased bytes, does not count -/
theorem rec_part {g : FB} {b e k : Nat} {bs : List Int32} (hn : e + bs.length + 2 ≤ 64) (hk : k < bs.length + 2) (hg : ∀ j, j < k → g.1 (b * 64 + e + j) = (nI bs.length :: (bs ++ [0])).getD j 0 &&& 255) (hr : ∀ o, e + k ≤ o → o < 64 → g.1 (b * 64 + o) = 255) : nx g b e = none ∧ TailOK g b e := by
  have h255 : (255 : Int32).toNatClampNeg = 255 := by decide
  cases k with
  | zero =>
    refine ⟨?_, fun _ _ o h1 h2 => hr o (by omega) h2⟩
    unfold nx
    rw [if_neg]
    have : gB g (b * 64 + e) = 255 := by unfold gB; rw [hr e (by omega) (by omega), h255]
    rw [this]
    omega
  | succ k =>
    have h0 : g.1 (b * 64 + e) = nI bs.length := by
      have := hg 0 (by omega)
      rw [Nat.add_zero] at this
      rw [this]
      exact nI_mask (by omega)
    have e0 : gB g (b * 64 + e) = bs.length := by unfold gB; rw [h0, nI_clamp (by omega)]
    refine ⟨?_, fun _ h9 => ?_⟩
    · unfold nx
      rw [if_neg]
      rw [e0]
      have : gB g (b * 64 + (e + 1 + bs.length)) = 255 := by unfold gB; rw [hr (e + 1 + bs.length) (by omega) (by omega), h255]
      rw [this]
      omega
    · rw [h0] at h9
      have : (nI bs.length).toNatClampNeg = 255 := by rw [h9]; exact h255
      rw [nI_clamp (by omega)] at this
      omega
theorem LgR_app {f : FB} {b : Nat} : ∀ (rs : List (List Opn)) (e : Nat) (os : List Opn), LgR f b e rs → ∀ {g : FB}, (∀ o, o < lgE e rs → g.1 (b * 64 + o) = f.1 (b * 64 + o)) → RecAt g b (lgE e rs) (encS os) → nx g b (lgE e rs + (encS os).length + 2) = none → LgR g b e (rs ++ [os]) ∧ lgE e (rs ++ [os]) = lgE e rs + (encS os).length + 2 := by
  intro rs
  induction rs with
  | nil =>
    intro e os hG g hs hr hn
    exact ⟨⟨hr, hn⟩, rfl⟩
  | cons o1 rs ih =>
    intro e os hG g hs hr hn
    obtain ⟨⟨g1, g2, g3⟩, g4⟩ := hG
    have h9 := nx_lt g3
    have hle : e + (encS o1).length + 2 ≤ lgE (e + (encS o1).length + 2) rs := (LgR_len rs _ h9.2 g4).2.2
    have hs' : ∀ o, o < lgE (e + (encS o1).length + 2) rs → g.1 (b * 64 + o) = f.1 (b * 64 + o) := hs
    obtain ⟨r1, r2⟩ := ih _ os g4 hs' hr hn
    refine ⟨⟨⟨?_, ?_, ?_⟩, r1⟩, r2⟩
    · unfold gB at g1 ⊢
      rw [hs' e (by omega)]
      exact g1
    · rw [← g2]
      unfold rb
      rw [List.length_map, List.length_range]
      refine List.map_congr_left fun i hi => ?_
      have := List.mem_range.mp hi
      rw [show b * 64 + e + 1 + i = b * 64 + (e + 1 + i) by omega]
      exact hs' _ (by omega)
    · have a1 : gB g (b * 64 + e) = gB f (b * 64 + e) := by unfold gB; rw [hs' e (by omega)]
      have a2 : gB g (b * 64 + (e + 1 + (encS o1).length)) = gB f (b * 64 + (e + 1 + (encS o1).length)) := by unfold gB; rw [hs' _ (by omega)]
      rw [← g3]
      unfold nx
      rw [a1, g1, a2]
theorem LgR_keep {f g : FB} {b : Nat} : ∀ (rs : List (List Opn)) (e : Nat), LgR f b e rs → (∀ o, o < lgE e rs → g.1 (b * 64 + o) = f.1 (b * 64 + o)) → nx g b (lgE e rs) = none → LgR g b e rs := by
  intro rs
  induction rs with
  | nil => intro e hG hs hn; exact hn
  | cons o1 rs ih =>
    intro e hG hs hn
    obtain ⟨⟨g1, g2, g3⟩, g4⟩ := hG
    have h9 := nx_lt g3
    have hle : e + (encS o1).length + 2 ≤ lgE (e + (encS o1).length + 2) rs := (LgR_len rs _ h9.2 g4).2.2
    have hs' : ∀ o, o < lgE (e + (encS o1).length + 2) rs → g.1 (b * 64 + o) = f.1 (b * 64 + o) := hs
    refine ⟨⟨?_, ?_, ?_⟩, ih _ g4 hs' hn⟩
    · unfold gB at g1 ⊢
      rw [hs' e (by omega)]
      exact g1
    · rw [← g2]
      unfold rb
      rw [List.length_map, List.length_range]
      refine List.map_congr_left fun i hi => ?_
      have := List.mem_range.mp hi
      rw [show b * 64 + e + 1 + i = b * 64 + (e + 1 + i) by omega]
      exact hs' _ (by omega)
    · have a1 : gB g (b * 64 + e) = gB f (b * 64 + e) := by unfold gB; rw [hs' e (by omega)]
      have a2 : gB g (b * 64 + (e + 1 + (encS o1).length)) = gB f (b * 64 + (e + 1 + (encS o1).length)) := by unfold gB; rw [hs' _ (by omega)]
      rw [← g3]
      unfold nx
      rw [a1, g1, a2]
