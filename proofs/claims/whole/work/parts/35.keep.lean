/-! ===== A commit, whole or cut off, keeps the logs ===== -/
theorem wC_same {f g : FB} {a k b2 : Nat} {vs : List Int32} (hg : g.1 = wC f.1 a vs k) (h : b2 * 64 + 64 ≤ a ∨ a + k ≤ b2 * 64) : SameB f g b2 := by
  intro o ho
  rw [hg]
  exact wC_out (by omega)
theorem FitS_flat {rs : List (List Opn)} {os : List Opn} (h1 : FitS nilL rs.flatten) (h2 : FitS (apS nilL rs.flatten) os) : FitS nilL (rs ++ [os]).flatten ∧ apS nilL (rs ++ [os]).flatten = apS (apS nilL rs.flatten) os := by
  have e : (rs ++ [os]).flatten = rs.flatten ++ os := by simp
  rw [e]
  exact ⟨(FitS_app _ _ _).mpr ⟨h1, h2⟩, apS_app _ _ _⟩
theorem nx_255 {g : FB} {b e : Nat} (h : e < 64 → g.1 (b * 64 + e) = 255) : nx g b e = none := by
  unfold nx
  rw [if_neg]
  rintro ⟨h1, h2, -⟩
  have : gB g (b * 64 + e) = 255 := by unfold gB; rw [h h1]; decide
  omega
/-- appending a record -/
theorem app_keep {f : FB} {q b : Nat} {rs : List (List Opn)} {os : List Opn} (hb16 : b < 16) (h : BlkOK f q b rs) (hF : FitS (apS nilL rs.flatten) os) (hn : lgE 1 rs + (encS os).length + 2 ≤ 64) (h255 : f.1 (b * 64 + lgE 1 rs) = 255) :
    let r := wr f (b * 64 + lgE 1 rs) (nI (encS os).length :: (encS os ++ [0]))
    ((r.1 = true → BlkOK r.2 q b (rs ++ [os])) ∧ (r.1 = false → BlkOK r.2 q b rs)) ∧ ∀ b2, b2 ≠ b → SameB f r.2 b2 := by
  intro r
  obtain ⟨k, k1, k2, k3, k4⟩ := wr_cells (nI (encS os).length :: (encS os ++ [0])) f (b * 64 + lgE 1 rs)
  have hlen : (nI (encS os).length :: (encS os ++ [0])).length = (encS os).length + 2 := by simp
  rw [hlen] at k1 k3 k4
  have hsame : ∀ b2, b2 ≠ b → SameB f r.2 b2 := fun b2 hne => wC_same k2 (by omega)
  obtain ⟨b1, b2, b3, b4, b5, b6⟩ := h
  have hoth : oth b ≠ b := by unfold oth; split <;> omega
  have hlow : ∀ o, o < lgE 1 rs → r.2.1 (b * 64 + o) = f.1 (b * 64 + o) := fun o ho => by rw [k2]; exact wC_out (by omega)
  have h0 : 1 ≤ lgE 1 rs := (LgR_len rs 1 (by omega) b3).2.2
  have hother : nx r.2 (oth b) 1 = none ∨ gB r.2 (b * 64) = (gB r.2 (oth b * 64) + 1) % 256 := by
    rw [same_nx (hsame _ hoth), show oth b * 64 = oth b * 64 + 0 by omega, same_gB (hsame _ hoth) (by omega)]
    have : gB r.2 (b * 64) = gB f (b * 64) := by
      unfold gB
      have := hlow 0 (by omega)
      rw [Nat.add_zero] at this
      rw [this]
    rw [this]
    exact b6
  have htail := b5 (by omega) h255
  refine ⟨⟨fun hr => ?_, fun hr => ?_⟩, hsame⟩
  · have hk := k3 hr
    subst hk
    have hrec : RecAt r.2 b (lgE 1 rs) (encS os) := rec_whole (f := f) (Byt_encS os _ hF) hn (fun j hj => by rw [k2]; exact wC_in hj)
    have hrest : ∀ o, lgE 1 rs + (encS os).length + 2 ≤ o → o < 64 → r.2.1 (b * 64 + o) = 255 := fun o h1 h2 => by
      rw [k2, wC_out (by omega)]
      exact htail o (by omega) h2
    have hnn : nx r.2 b (lgE 1 rs + (encS os).length + 2) = none := nx_255 fun h9 => hrest _ (Nat.le_refl _) h9
    obtain ⟨r1, r2⟩ := LgR_app rs 1 os b3 hlow hrec hnn
    obtain ⟨f1, f2⟩ := FitS_flat b4 hF
    refine ⟨b1, by simp, r1, f1, ?_, hother⟩
    rw [r2]
    exact fun _ _ o h1 h2 => hrest o h1 h2
  · have hk := k4 hr
    obtain ⟨p1, p2⟩ := rec_part (g := r.2) (b := b) (e := lgE 1 rs) (k := k) (bs := encS os) hn hk (fun j hj => by rw [k2]; exact wC_in hj) (fun o h1 h2 => by rw [k2, wC_out (by omega)]; exact htail o (by omega) h2)
    exact ⟨b1, b2, LgR_keep rs 1 b3 hlow p1, b4, p2, hother⟩
/-- writing a log anew into block b -/
theorem anW_keep {f : FB} {b : Nat} {rev : Int32} {os : List Opn} (hb16 : b < 16) (hF : FitS nilL os) (hn : (encS os).length ≤ 61) :
    let r := anW f b rev (encS os)
    ((r.1 = true → LgR r.2 b 1 [os] ∧ TailOK r.2 b (lgE 1 [os]) ∧ r.2.1 (b * 64) = rev &&& 255) ∧ (r.1 = false → (∀ o, o < 64 → r.2.1 (b * 64 + o) = f.1 (b * 64 + o)) ∨ nx r.2 b 1 = none)) ∧ ∀ b2, b2 ≠ b → SameB f r.2 b2 := by
  intro r
  rcases ers_cells f b with ⟨h1, h2⟩ | ⟨h1, h2⟩
  · have er : r = wr (ers f b).2 (b * 64) (rev :: nI (encS os).length :: (encS os ++ [0])) := by
      show anW f b rev (encS os) = _
      unfold anW
      rw [if_pos h1]
    obtain ⟨k, k1, k2, k3, k4⟩ := wr_cells (rev :: nI (encS os).length :: (encS os ++ [0])) (ers f b).2 (b * 64)
    rw [← er] at k2 k3 k4
    rw [h2] at k2
    have hlen : (rev :: nI (encS os).length :: (encS os ++ [0])).length = (encS os).length + 3 := by simp
    rw [hlen] at k1 k3 k4
    have hcl : ∀ o, k ≤ o → o < 64 → r.2.1 (b * 64 + o) = 255 := fun o h3 h4 => by
      rw [k2, wC_out (by omega)]
      unfold ersC
      rw [if_pos (by omega)]
    have hin : ∀ j, j < k → r.2.1 (b * 64 + j) = (rev :: nI (encS os).length :: (encS os ++ [0])).getD j 0 &&& 255 := fun j hj => by rw [k2]; exact wC_in hj
    have hin1 : ∀ j, j + 1 < k → r.2.1 (b * 64 + 1 + j) = (nI (encS os).length :: (encS os ++ [0])).getD j 0 &&& 255 := fun j hj => by
      have := hin (j + 1) hj
      rw [List.getD_cons_succ] at this
      rw [show b * 64 + 1 + j = b * 64 + (j + 1) by omega]
      exact this
    refine ⟨⟨fun hr => ?_, fun hr => ?_⟩, fun b2 hne o ho => ?_⟩
    · have hk := k3 hr
      have hrec : RecAt r.2 b 1 (encS os) := rec_whole (f := f) (Byt_encS os _ hF) (by omega) (fun j hj => hin1 j (by omega))
      have hnn : nx r.2 b (1 + (encS os).length + 2) = none := nx_255 fun h9 => hcl _ (by omega) h9
      refine ⟨⟨hrec, hnn⟩, fun _ _ o h3 h4 => hcl o (by show k ≤ o; have : lgE 1 [os] = 1 + (encS os).length + 2 := rfl; omega) h4, ?_⟩
      have := hin 0 (by omega)
      rw [Nat.add_zero] at this
      exact this
    · right
      have hk := k4 hr
      by_cases hk0 : k = 0
      · refine nx_255 fun h9 => hcl 1 (by omega) h9
      · exact (rec_part (g := r.2) (b := b) (e := 1) (k := k - 1) (bs := encS os) (by omega) (by omega) (fun j hj => hin1 j (by omega)) (fun o h3 h4 => hcl o (by omega) h4)).1
    · rw [k2, wC_out (by omega)]
      unfold ersC
      rw [if_neg (by omega)]
  · have er : r = (false, (ers f b).2) := by
      show anW f b rev (encS os) = _
      unfold anW
      rw [h1]
      rfl
    refine ⟨⟨fun hr => ?_, fun _ => Or.inl fun o _ => ?_⟩, fun b2 _ o _ => ?_⟩
    · rw [er] at hr; cases hr
    · rw [er, h2]
    · rw [er, h2]
theorem OkL_of {rs : List (List Opn)} (h : FitS nilL rs.flatten) : OkL (apS nilL rs.flatten) := OkL_apS _ _ OkL_nil h
theorem pairs_ne {q q2 b b2 : Nat} (hne : q2 ≠ q) (h1 : b = 2 * q ∨ b = 2 * q + 1) (h2 : b2 = 2 * q2 ∨ b2 = 2 * q2 + 1) : b2 ≠ b := by omega
/-- a log written anew with a good list -/
theorem anew_keep {f : FB} (hB : BOk f) {q b : Nat} {rs : List (List Opn)} (hq : q < 8) (hb16 : b < 16) (h : BlkOK f q b rs) {st : Lst} (hst : OkL st) :
    let r := anF f q (some b) (encL st)
    ((r.1 = true → PI r.2 q (some st)) ∧ (r.1 = false → PI r.2 q (some (apS nilL rs.flatten)))) ∧ ∀ q2, q2 ≠ q → SameB f r.2 (2 * q2) ∧ SameB f r.2 (2 * q2 + 1) := by
  intro r
  obtain ⟨m1, m2⟩ := opsL_make hst
  have henc := opsL_enc hst
  have hlen := encL_len hst.1 (fun e he => (hst.2.1 e he).1)
  have hk := anW_keep (f := f) (b := oth b) (rev := f.1 (b * 64) + 1) (os := opsL st) (oth_lt hb16) m2 (by rw [henc]; omega)
  rw [henc] at hk
  obtain ⟨⟨k1, k2⟩, k3⟩ := hk
  obtain ⟨b1, b2, b3, b4, b5, b6⟩ := id h
  have hoth : b ≠ oth b := by unfold oth; split <;> omega
  have hoo : oth (oth b) = b := by unfold oth; split <;> (split <;> omega)
  have hsb : SameB f r.2 b := k3 b hoth
  have hob : oth b = 2 * q ∨ oth b = 2 * q + 1 := by
    obtain ⟨o1, o2⟩ := oth_of b1
    rcases b1 with h9 | h9
    · exact Or.inr (o1 h9)
    · exact Or.inl (o2 h9)
  refine ⟨⟨fun hr => ?_, fun hr => ?_⟩, fun q2 hne => ⟨k3 _ (pairs_ne hne hob (Or.inl rfl)), k3 _ (pairs_ne hne hob (Or.inr rfl))⟩⟩
  · obtain ⟨g1, g2, g3⟩ := k1 hr
    refine ⟨oth b, [opsL st], ⟨hob, by simp, g1, by simpa using m2, g2, Or.inr ?_⟩, by simpa using m1.symm⟩
    rw [hoo]
    have e1 : gB r.2 (b * 64) = gB f (b * 64) := by
      have := same_gB hsb (o := 0) (by omega)
      rw [Nat.add_zero] at this
      exact this
    rw [e1]
    have hv := (hB (b * 64) (by omega))
    unfold gB
    have g3' : r.2.1 (oth b * 64) = nI ((gB f (b * 64) + 1) % 256) := by
      have : r.2.1 (oth b * 64) = (f.1 (b * 64) + 1) &&& 255 := g3
      rw [this, hv.1, nI_1, pk_andN (by omega) (m := 255) 8 (by decide)]
    rw [g3', nI_clamp (by omega)]
    rfl
  · rcases k2 hr with h9 | h9
    · have h8 : ∀ o, o < 64 → r.2.1 (oth b * 64 + o) = f.1 (oth b * 64 + o) := h9
      refine PI.same (f := f) ?_ ?_ ⟨b, rs, h, rfl⟩
      · rcases b1 with e | e
        · rw [← e]; exact hsb
        · intro o ho
          have := h8 o ho
          rw [(oth_of (Or.inr e)).2 e] at this
          exact this
      · rcases b1 with e | e
        · intro o ho
          have := h8 o ho
          rw [(oth_of (Or.inl e)).1 e] at this
          exact this
        · rw [← e]; exact hsb
    · refine ⟨b, rs, ⟨b1, b2, same_LgR hsb _ _ b3, b4, fun he h8 k hk1 hk2 => ?_, Or.inl h9⟩, rfl⟩
      rw [hsb _ hk2]
      exact b5 he (by rw [← hsb _ he]; exact h8) k hk1 hk2
/-- COMMIT -/
theorem cmt_keep {f : FB} (hB : BOk f) {q b : Nat} {rs : List (List Opn)} (hq : q < 8) (h : BlkOK f q b rs) {os : List Opn} (hF : FitS (apS nilL rs.flatten) os) :
    let r := cmF f b (encS os) (apS (apS nilL rs.flatten) os)
    ((r.1 = true → PI r.2 q (some (apS (apS nilL rs.flatten) os))) ∧ (r.1 = false → PI r.2 q (some (apS nilL rs.flatten)))) ∧ ∀ q2, q2 ≠ q → SameB f r.2 (2 * q2) ∧ SameB f r.2 (2 * q2 + 1) := by
  intro r
  have hb16 : b < 16 := by have := h.1; omega
  have hst : OkL (apS (apS nilL rs.flatten) os) := OkL_apS os _ (OkL_of h.2.2.2.1) hF
  have hle := LgR_lE h.2.2.1
  by_cases hc : lE f b + (encS os).length + 2 ≤ 64 ∧ f.1 (b * 64 + lE f b) = 255
  · have er : r = wr f (b * 64 + lgE 1 rs) (nI (encS os).length :: (encS os ++ [0])) := by
      show cmF f b (encS os) _ = _
      unfold cmF
      rw [if_pos hc, hle]
    rw [hle] at hc
    obtain ⟨⟨k1, k2⟩, k3⟩ := app_keep hb16 h hF hc.1 hc.2
    rw [er]
    obtain ⟨f1, f2⟩ := FitS_flat h.2.2.2.1 hF
    exact ⟨⟨fun hr => ⟨b, rs ++ [os], k1 hr, f2.symm⟩, fun hr => ⟨b, rs, k2 hr, rfl⟩⟩, fun q2 hne => ⟨k3 _ (pairs_ne hne h.1 (Or.inl rfl)), k3 _ (pairs_ne hne h.1 (Or.inr rfl))⟩⟩
  · have er : r = anF f q (some b) (encL (apS (apS nilL rs.flatten) os)) := by
      show cmF f b (encS os) _ = _
      unfold cmF
      rw [if_neg hc]
      rfl
    rw [er]
    exact anew_keep hB hq hb16 h hst
/-- BEGIN -/
theorem bg_keep {f : FB} (hB : BOk f) {q : Nat} (hq : q < 8) {o : Option Lst} (h : PI f q o) :
    let r := anF f q (act f q) []
    ((r.1 = true → PI r.2 q (some nilL)) ∧ (r.1 = false → PI r.2 q o)) ∧ ∀ q2, q2 ≠ q → SameB f r.2 (2 * q2) ∧ SameB f r.2 (2 * q2 + 1) := by
  intro r
  cases o with
  | some st =>
    obtain ⟨b, rs, hb, rfl⟩ := h
    have er : r = anF f q (some b) (encL nilL) := by
      show anF f q (act f q) [] = _
      rw [act_of hB hq hb]
      rfl
    rw [er]
    exact anew_keep hB hq (by have := hb.1; omega) hb OkL_nil
  | none =>
    have er : r = anW f (2 * q) 0 (encS []) := by
      show anF f q (act f q) [] = _
      rw [act_none h]
      rfl
    obtain ⟨⟨k1, k2⟩, k3⟩ := anW_keep (f := f) (b := 2 * q) (rev := 0) (os := []) (by omega) trivial (by decide)
    rw [er]
    have hs1 : SameB f (anW f (2 * q) 0 (encS [])).2 (2 * q + 1) := k3 _ (by omega)
    have ho : oth (2 * q) = 2 * q + 1 := (oth_of (q := q) (Or.inl rfl)).1 rfl
    refine ⟨⟨fun hr => ?_, fun hr => ?_⟩, fun q2 hne => ⟨k3 _ (by omega), k3 _ (by omega)⟩⟩
    · obtain ⟨g1, g2, g3⟩ := k1 hr
      refine ⟨2 * q, [[]], ⟨Or.inl rfl, by simp, g1, trivial, g2, Or.inl ?_⟩, rfl⟩
      rw [ho, same_nx hs1]
      exact h.2
    · refine ⟨?_, (same_nx hs1).trans h.2⟩
      rcases k2 hr with h9 | h9
      · exact (same_nx (f := f) h9).trans h.1
      · exact h9
