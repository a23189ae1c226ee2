section SOUND
variable {p : Program} {l : Launch} {e : Env} {R : Room} {s : State} {mm : MethodId} {args : Array Value} {below : List Frame} {meth : Method} {c : Code} {Q : State → Prop} {D : va_G} {N b m c0 s0 pc pc' aux len : Nat} {L L' : AL} {S S' : List Value} {h h' : AH} {i : Instr}
theorem okPc_use (hok : okPc m pc = true) (hcd : cd m pc = some (i, len, aux)) : decode (mBytes m) pc = .ok (i, len) ∧ okLen i len = true ∧ lnk m i aux = true := by
  unfold okPc at hok
  rw [hcd] at hok
  simp only [Bool.and_eq_true, decide_eq_true_eq] at hok
  exact ⟨hok.1.1, hok.1.2, hok.2⟩
theorem stf_len {a ci k : Nat} {v : Value} (hs : stf h a ci k v = some h') : h'.length = h.length ∧ sl h' = sl h := by
  obtain ⟨fs, h1, -, -, -, -, rfl⟩ := stf_spec hs
  exact ⟨List.length_set, sl_set h1 rfl⟩
theorem ast_len {a : Nat} {ty : FieldType} {j : Int32} {v : Value} (hs : ast h a ty j v = some h') : h'.length = h.length ∧ sl h' = sl h := by
  obtain ⟨n, f, h1, -, -, -, rfl⟩ := ast_spec hs
  exact ⟨List.length_set, sl_set h1 rfl⟩
theorem push_len (e : AC) : h.length ≤ (h ++ [e]).length ∧ sl h ≤ sl (h ++ [e]) := by
  rw [sl_push, List.length_append]
  exact ⟨by omega, by omega⟩
set_option maxHeartbeats 4000000 in
theorem stp_mono (hlk : lnk m i aux = true) (hs : stp m i aux pc L S h = some (pc', L', S', h')) : h.length ≤ h'.length ∧ sl h ≤ sl h' := by
  have key : h' = h ∨ (h'.length = h.length ∧ sl h' = sl h) ∨ ∃ x, h' = h ++ [x] := by
    cases i <;> simp only [stp, psh, ld, sto, stoJ, bin, binJ, shJ, br1, br2] at hs <;> (repeat' split at hs) <;> (try (cases hs; done)) <;> (first
      | (simp only [Option.some.injEq, Prod.mk.injEq] at hs; exact Or.inl hs.2.2.2.symm)
      | (simp only [Option.some.injEq, Prod.mk.injEq] at hs; exact Or.inr (Or.inr ⟨_, hs.2.2.2.symm⟩))
      | (obtain ⟨v, hv, h2⟩ := Option.map_eq_some_iff.mp hs
         simp only [Prod.mk.injEq] at h2
         first
         | exact Or.inl h2.2.2.2.symm
         | (obtain ⟨-, -, -, rfl⟩ := h2; exact Or.inr (Or.inl (stf_len hv)))
         | (obtain ⟨-, -, -, rfl⟩ := h2; exact Or.inr (Or.inl (ast_len hv)))))
  rcases key with rfl | ⟨h1, h2⟩ | ⟨x, rfl⟩
  · exact ⟨Nat.le_refl _, Nat.le_refl _⟩
  · exact ⟨by omega, by omega⟩
  · exact push_len x
set_option maxHeartbeats 4000000 in
/-- a step's form: it leaves the heap, or writes one cell, or makes one -/
theorem go_stp (C : Cx D p R s mm args meth c m) (hd : decode (mBytes m) pc = .ok (i, len)) (hle : okLen i len = true) (hlk : lnk m i aux = true) (hs : stp m i aux pc L S h = some (pc', L', S', h')) :
    (h.length ≤ h'.length ∧ sl h ≤ sl h') ∧ (h'.length ≤ R.cells + c0 ∧ sl h' ≤ R.slots + s0 → Go p l e R s mm args below meth c Q D N b m c0 s0 pc' L' S' h' → Go p l e R s mm args below meth c Q D N b m c0 s0 pc L S h) := by
  cases i with
  | aconst_null =>
    simp only [stp, Option.some.injEq, Prod.mk.injEq] at hs
    obtain ⟨rfl, rfl, rfl, rfl⟩ := hs
    obtain rfl : len = 1 := by simpa [okLen] using hle
    exact ⟨⟨Nat.le_refl _, Nat.le_refl _⟩, fun _ kk ls H locs cells slots hR hl hq hc hsl => lv_null C.1 C.2.1 hd (kk ls H locs cells slots hR hl hq hc hsl)⟩
  | iconst n =>
    simp only [stp, Option.some.injEq, Prod.mk.injEq] at hs
    obtain ⟨rfl, rfl, rfl, rfl⟩ := hs
    obtain rfl : len = 1 := by simpa [okLen] using hle
    exact ⟨⟨Nat.le_refl _, Nat.le_refl _⟩, fun _ kk ls H locs cells slots hR hl hq hc hsl => lv_iconst C.1 C.2.1 hd rfl (kk ls H locs cells slots hR hl hq hc hsl)⟩
  | bipush n =>
    simp only [stp, Option.some.injEq, Prod.mk.injEq] at hs
    obtain ⟨rfl, rfl, rfl, rfl⟩ := hs
    obtain rfl : len = 2 := by simpa [okLen] using hle
    exact ⟨⟨Nat.le_refl _, Nat.le_refl _⟩, fun _ kk ls H locs cells slots hR hl hq hc hsl => lv_bipush C.1 C.2.1 hd rfl (kk ls H locs cells slots hR hl hq hc hsl)⟩
  | sipush n =>
    simp only [stp, Option.some.injEq, Prod.mk.injEq] at hs
    obtain ⟨rfl, rfl, rfl, rfl⟩ := hs
    obtain rfl : len = 3 := by simpa [okLen] using hle
    exact ⟨⟨Nat.le_refl _, Nat.le_refl _⟩, fun _ kk ls H locs cells slots hR hl hq hc hsl => lv_sipush C.1 C.2.1 hd rfl (kk ls H locs cells slots hR hl hq hc hsl)⟩
  | lconst n =>
    simp only [stp, Option.some.injEq, Prod.mk.injEq] at hs
    obtain ⟨rfl, rfl, rfl, rfl⟩ := hs
    obtain rfl : len = 1 := by simpa [okLen] using hle
    exact ⟨⟨Nat.le_refl _, Nat.le_refl _⟩, fun _ kk ls H locs cells slots hR hl hq hc hsl => lv_lconst C.1 C.2.1 hd rfl (kk ls H locs cells slots hR hl hq hc hsl)⟩
  | ldc2_w x =>
    simp only [stp] at hs
    obtain ⟨v, hv, h2⟩ := Option.map_eq_some_iff.mp hs
    simp only [Prod.mk.injEq] at h2
    obtain ⟨rfl, rfl, rfl, rfl⟩ := h2
    obtain rfl : len = 3 := by simpa [okLen] using hle
    unfold lnk at hlk
    simp only [Bool.and_eq_true, decide_eq_true_eq] at hlk
    have hw := C.2.2.2.2.1 _ (KL_in hlk.2)
    rw [List.getD_eq_getElem?_getD, hv] at hw
    exact ⟨⟨Nat.le_refl _, Nat.le_refl _⟩, fun _ kk ls H locs cells slots hR hl hq hc hsl => lv_ldc2 C.1 C.2.1 C.2.2.2.1 hw hd (kk ls H locs cells slots hR hl hq hc hsl)⟩
  | iload k =>
    simp only [stp] at hs
    obtain ⟨v, hL, hv, rfl, rfl, rfl, rfl⟩ := ld_spec hs
    obtain rfl : len = 2 := by simpa [okLen] using hle
    exact ⟨⟨Nat.le_refl _, Nat.le_refl _⟩, fun _ kk => go_ld C hd hL (Or.inl ⟨rfl, rfl, hv⟩) kk⟩
  | iload_n k =>
    simp only [stp] at hs
    obtain ⟨v, hL, hv, rfl, rfl, rfl, rfl⟩ := ld_spec hs
    obtain rfl : len = 1 := by simpa [okLen] using hle
    exact ⟨⟨Nat.le_refl _, Nat.le_refl _⟩, fun _ kk => go_ld C hd hL (Or.inr (Or.inl ⟨k, rfl, rfl, rfl, hv⟩)) kk⟩
  | lload k =>
    simp only [stp] at hs
    obtain ⟨v, hL, hv, rfl, rfl, rfl, rfl⟩ := ld_spec hs
    obtain rfl : len = 2 := by simpa [okLen] using hle
    exact ⟨⟨Nat.le_refl _, Nat.le_refl _⟩, fun _ kk => go_ld C hd hL (Or.inr (Or.inr (Or.inl ⟨rfl, rfl, hv⟩))) kk⟩
  | lload_n k =>
    simp only [stp] at hs
    obtain ⟨v, hL, hv, rfl, rfl, rfl, rfl⟩ := ld_spec hs
    obtain rfl : len = 1 := by simpa [okLen] using hle
    exact ⟨⟨Nat.le_refl _, Nat.le_refl _⟩, fun _ kk => go_ld C hd hL (Or.inr (Or.inr (Or.inr (Or.inl ⟨k, rfl, rfl, rfl, hv⟩)))) kk⟩
  | aload k =>
    simp only [stp] at hs
    obtain ⟨v, hL, hv, rfl, rfl, rfl, rfl⟩ := ld_spec hs
    obtain rfl : len = 2 := by simpa [okLen] using hle
    exact ⟨⟨Nat.le_refl _, Nat.le_refl _⟩, fun _ kk => go_ld C hd hL (Or.inr (Or.inr (Or.inr (Or.inr (Or.inl ⟨rfl, rfl, hv⟩))))) kk⟩
  | aload_n k =>
    simp only [stp] at hs
    obtain ⟨v, hL, hv, rfl, rfl, rfl, rfl⟩ := ld_spec hs
    obtain rfl : len = 1 := by simpa [okLen] using hle
    exact ⟨⟨Nat.le_refl _, Nat.le_refl _⟩, fun _ kk => go_ld C hd hL (Or.inr (Or.inr (Or.inr (Or.inr (Or.inr ⟨k, rfl, rfl, rfl, hv⟩))))) kk⟩
  | istore k =>
    simp only [stp] at hs
    obtain ⟨v, rfl, hv, hst, rfl, rfl⟩ := sto_spec hs
    obtain rfl : len = 2 := by simpa [okLen] using hle
    exact ⟨⟨Nat.le_refl _, Nat.le_refl _⟩, fun _ kk => go_sto C hd hst (Or.inl ⟨rfl, rfl, isI_of hv⟩) kk⟩
  | istore_n k =>
    simp only [stp] at hs
    obtain ⟨v, rfl, hv, hst, rfl, rfl⟩ := sto_spec hs
    obtain rfl : len = 1 := by simpa [okLen] using hle
    exact ⟨⟨Nat.le_refl _, Nat.le_refl _⟩, fun _ kk => go_sto C hd hst (Or.inr (Or.inl ⟨k, rfl, rfl, rfl, isI_of hv⟩)) kk⟩
  | astore k =>
    simp only [stp] at hs
    obtain ⟨v, rfl, hv, hst, rfl, rfl⟩ := sto_spec hs
    obtain rfl : len = 2 := by simpa [okLen] using hle
    exact ⟨⟨Nat.le_refl _, Nat.le_refl _⟩, fun _ kk => go_sto C hd hst (Or.inr (Or.inr (Or.inl ⟨rfl, rfl, hv⟩))) kk⟩
  | astore_n k =>
    simp only [stp] at hs
    obtain ⟨v, rfl, hv, hst, rfl, rfl⟩ := sto_spec hs
    obtain rfl : len = 1 := by simpa [okLen] using hle
    exact ⟨⟨Nat.le_refl _, Nat.le_refl _⟩, fun _ kk => go_sto C hd hst (Or.inr (Or.inr (Or.inr ⟨k, rfl, rfl, rfl, hv⟩))) kk⟩
  | lstore k =>
    simp only [stp] at hs
    obtain ⟨x, rfl, hst, rfl, rfl⟩ := stoJ_spec hs
    obtain rfl : len = 2 := by simpa [okLen] using hle
    exact ⟨⟨Nat.le_refl _, Nat.le_refl _⟩, fun _ kk => go_stoJ C hd hst (Or.inl ⟨rfl, rfl⟩) kk⟩
  | lstore_n k =>
    simp only [stp] at hs
    obtain ⟨x, rfl, hst, rfl, rfl⟩ := stoJ_spec hs
    obtain rfl : len = 1 := by simpa [okLen] using hle
    exact ⟨⟨Nat.le_refl _, Nat.le_refl _⟩, fun _ kk => go_stoJ C hd hst (Or.inr ⟨k, rfl, rfl, rfl⟩) kk⟩
  | iinc k n =>
    simp only [stp] at hs
    split at hs
    · rename_i x hL
      obtain ⟨L0, hst, h2⟩ := Option.map_eq_some_iff.mp hs
      simp only [Prod.mk.injEq] at h2
      obtain ⟨rfl, rfl, rfl, rfl⟩ := h2
      obtain rfl : len = 3 := by simpa [okLen] using hle
      exact ⟨⟨Nat.le_refl _, Nat.le_refl _⟩, fun _ kk => go_iinc C hd hL hst kk⟩
    · cases hs
  | iadd =>
    obtain ⟨x, y, S0, rfl, rfl, rfl, rfl, rfl⟩ := bin_spec hs
    obtain rfl : len = 1 := by simpa [okLen] using hle
    exact ⟨⟨Nat.le_refl _, Nat.le_refl _⟩, fun _ kk ls H locs cells slots hR hl hq hc hsl => lv_iadd C.1 C.2.1 hd (kk ls H locs cells slots hR hl hq hc hsl)⟩
  | isub =>
    obtain ⟨x, y, S0, rfl, rfl, rfl, rfl, rfl⟩ := bin_spec hs
    obtain rfl : len = 1 := by simpa [okLen] using hle
    exact ⟨⟨Nat.le_refl _, Nat.le_refl _⟩, fun _ kk ls H locs cells slots hR hl hq hc hsl => lv_isub C.1 C.2.1 hd (kk ls H locs cells slots hR hl hq hc hsl)⟩
  | imul =>
    obtain ⟨x, y, S0, rfl, rfl, rfl, rfl, rfl⟩ := bin_spec hs
    obtain rfl : len = 1 := by simpa [okLen] using hle
    exact ⟨⟨Nat.le_refl _, Nat.le_refl _⟩, fun _ kk ls H locs cells slots hR hl hq hc hsl => lv_imul C.1 C.2.1 hd (kk ls H locs cells slots hR hl hq hc hsl)⟩
  | iand =>
    obtain ⟨x, y, S0, rfl, rfl, rfl, rfl, rfl⟩ := bin_spec hs
    obtain rfl : len = 1 := by simpa [okLen] using hle
    exact ⟨⟨Nat.le_refl _, Nat.le_refl _⟩, fun _ kk ls H locs cells slots hR hl hq hc hsl => lv_iand C.1 C.2.1 hd (kk ls H locs cells slots hR hl hq hc hsl)⟩
  | ior =>
    obtain ⟨x, y, S0, rfl, rfl, rfl, rfl, rfl⟩ := bin_spec hs
    obtain rfl : len = 1 := by simpa [okLen] using hle
    exact ⟨⟨Nat.le_refl _, Nat.le_refl _⟩, fun _ kk ls H locs cells slots hR hl hq hc hsl => lv_ior C.1 C.2.1 hd (kk ls H locs cells slots hR hl hq hc hsl)⟩
  | ixor =>
    obtain ⟨x, y, S0, rfl, rfl, rfl, rfl, rfl⟩ := bin_spec hs
    obtain rfl : len = 1 := by simpa [okLen] using hle
    exact ⟨⟨Nat.le_refl _, Nat.le_refl _⟩, fun _ kk ls H locs cells slots hR hl hq hc hsl => lv_ixor C.1 C.2.1 hd (kk ls H locs cells slots hR hl hq hc hsl)⟩
  | ishl =>
    obtain ⟨x, y, S0, rfl, rfl, rfl, rfl, rfl⟩ := bin_spec hs
    obtain rfl : len = 1 := by simpa [okLen] using hle
    exact ⟨⟨Nat.le_refl _, Nat.le_refl _⟩, fun _ kk ls H locs cells slots hR hl hq hc hsl => lv_ishl C.1 C.2.1 hd (kk ls H locs cells slots hR hl hq hc hsl)⟩
  | ishr =>
    obtain ⟨x, y, S0, rfl, rfl, rfl, rfl, rfl⟩ := bin_spec hs
    obtain rfl : len = 1 := by simpa [okLen] using hle
    exact ⟨⟨Nat.le_refl _, Nat.le_refl _⟩, fun _ kk ls H locs cells slots hR hl hq hc hsl => lv_ishr C.1 C.2.1 hd (kk ls H locs cells slots hR hl hq hc hsl)⟩
  | land =>
    obtain ⟨x, y, S0, rfl, rfl, rfl, rfl, rfl⟩ := binJ_spec hs
    obtain rfl : len = 1 := by simpa [okLen] using hle
    exact ⟨⟨Nat.le_refl _, Nat.le_refl _⟩, fun _ kk ls H locs cells slots hR hl hq hc hsl => lv_land C.1 C.2.1 hd (kk ls H locs cells slots hR hl hq hc hsl)⟩
  | lor =>
    obtain ⟨x, y, S0, rfl, rfl, rfl, rfl, rfl⟩ := binJ_spec hs
    obtain rfl : len = 1 := by simpa [okLen] using hle
    exact ⟨⟨Nat.le_refl _, Nat.le_refl _⟩, fun _ kk ls H locs cells slots hR hl hq hc hsl => lv_lor C.1 C.2.1 hd (kk ls H locs cells slots hR hl hq hc hsl)⟩
  | lshl =>
    obtain ⟨x, y, S0, rfl, rfl, rfl, rfl, rfl⟩ := shJ_spec hs
    obtain rfl : len = 1 := by simpa [okLen] using hle
    exact ⟨⟨Nat.le_refl _, Nat.le_refl _⟩, fun _ kk ls H locs cells slots hR hl hq hc hsl => lv_lshl C.1 C.2.1 hd rfl (kk ls H locs cells slots hR hl hq hc hsl)⟩
  | lshr =>
    obtain ⟨x, y, S0, rfl, rfl, rfl, rfl, rfl⟩ := shJ_spec hs
    obtain rfl : len = 1 := by simpa [okLen] using hle
    exact ⟨⟨Nat.le_refl _, Nat.le_refl _⟩, fun _ kk ls H locs cells slots hR hl hq hc hsl => lv_lshr C.1 C.2.1 hd rfl (kk ls H locs cells slots hR hl hq hc hsl)⟩
  | lushr =>
    obtain ⟨x, y, S0, rfl, rfl, rfl, rfl, rfl⟩ := shJ_spec hs
    obtain rfl : len = 1 := by simpa [okLen] using hle
    exact ⟨⟨Nat.le_refl _, Nat.le_refl _⟩, fun _ kk ls H locs cells slots hR hl hq hc hsl => lv_lushr C.1 C.2.1 hd rfl (kk ls H locs cells slots hR hl hq hc hsl)⟩
  | i2l =>
    simp only [stp] at hs
    split at hs
    · simp only [Option.some.injEq, Prod.mk.injEq] at hs
      obtain ⟨rfl, rfl, rfl, rfl⟩ := hs
      obtain rfl : len = 1 := by simpa [okLen] using hle
      exact ⟨⟨Nat.le_refl _, Nat.le_refl _⟩, fun _ kk ls H locs cells slots hR hl hq hc hsl => lv_i2l C.1 C.2.1 hd rfl (kk ls H locs cells slots hR hl hq hc hsl)⟩
    · cases hs
  | l2i =>
    simp only [stp] at hs
    split at hs
    · simp only [Option.some.injEq, Prod.mk.injEq] at hs
      obtain ⟨rfl, rfl, rfl, rfl⟩ := hs
      obtain rfl : len = 1 := by simpa [okLen] using hle
      exact ⟨⟨Nat.le_refl _, Nat.le_refl _⟩, fun _ kk ls H locs cells slots hR hl hq hc hsl => lv_l2i C.1 C.2.1 hd rfl (kk ls H locs cells slots hR hl hq hc hsl)⟩
    · cases hs
  | lcmp =>
    simp only [stp] at hs
    split at hs
    · simp only [Option.some.injEq, Prod.mk.injEq] at hs
      obtain ⟨rfl, rfl, rfl, rfl⟩ := hs
      obtain rfl : len = 1 := by simpa [okLen] using hle
      exact ⟨⟨Nat.le_refl _, Nat.le_refl _⟩, fun _ kk ls H locs cells slots hR hl hq hc hsl => W.lcmp C.1 C.2.1 hd (kk ls H locs cells slots hR hl hq hc hsl)⟩
    · cases hs
  | dup =>
    simp only [stp] at hs
    split at hs
    · split at hs
      · rename_i v S0 hcat
        simp only [Option.some.injEq, Prod.mk.injEq] at hs
        obtain ⟨rfl, rfl, rfl, rfl⟩ := hs
        obtain rfl : len = 1 := by simpa [okLen] using hle
        exact ⟨⟨Nat.le_refl _, Nat.le_refl _⟩, fun _ kk ls H locs cells slots hR hl hq hc hsl => lv_dup C.1 C.2.1 hd (by rw [cv_cat]; exact hcat) (kk ls H locs cells slots hR hl hq hc hsl)⟩
      · cases hs
    · cases hs
  | dup2 =>
    simp only [stp] at hs
    split at hs
    · split at hs
      · rename_i v w S0 hcat
        simp only [Option.some.injEq, Prod.mk.injEq] at hs
        obtain ⟨rfl, rfl, rfl, rfl⟩ := hs
        obtain rfl : len = 1 := by simpa [okLen] using hle
        exact ⟨⟨Nat.le_refl _, Nat.le_refl _⟩, fun _ kk ls H locs cells slots hR hl hq hc hsl => lv_dup2_11 C.1 C.2.1 hd (by rw [cv_cat]; exact hcat.1) (by rw [cv_cat]; exact hcat.2) (kk ls H locs cells slots hR hl hq hc hsl)⟩
      · cases hs
    · cases hs
  | ifCond cn off =>
    obtain rfl : len = 3 := by simpa [okLen] using hle
    have e : h' = h := by
      simp only [stp, br1] at hs
      split at hs
      · obtain ⟨t, ht, h2⟩ := Option.map_eq_some_iff.mp hs
        simp only [Prod.mk.injEq] at h2
        exact h2.2.2.2.symm
      · cases hs
    exact ⟨by rw [e]; exact ⟨Nat.le_refl _, Nat.le_refl _⟩, fun _ kk => go_if C hd hs kk⟩
  | if_icmp cn off =>
    obtain rfl : len = 3 := by simpa [okLen] using hle
    have e : h' = h := by
      simp only [stp, br2] at hs
      split at hs
      · obtain ⟨t, ht, h2⟩ := Option.map_eq_some_iff.mp hs
        simp only [Prod.mk.injEq] at h2
        exact h2.2.2.2.symm
      · cases hs
    exact ⟨by rw [e]; exact ⟨Nat.le_refl _, Nat.le_refl _⟩, fun _ kk => go_icmp C hd hs kk⟩
  | ifnull off =>
    obtain rfl : len = 3 := by simpa [okLen] using hle
    simp only [stp] at hs
    split at hs
    · obtain ⟨t, ht, h2⟩ := Option.map_eq_some_iff.mp hs
      simp only [Prod.mk.injEq] at h2
      obtain ⟨rfl, rfl, rfl, rfl⟩ := h2
      exact ⟨⟨Nat.le_refl _, Nat.le_refl _⟩, fun _ kk ls H locs cells slots hR hl hq hc hsl => lv_ifnullN C.1 C.2.1 hd (jmp_spec ht) (kk ls H locs cells slots hR hl hq hc hsl)⟩
    · simp only [Option.some.injEq, Prod.mk.injEq] at hs
      obtain ⟨rfl, rfl, rfl, rfl⟩ := hs
      exact ⟨⟨Nat.le_refl _, Nat.le_refl _⟩, fun _ kk ls H locs cells slots hR hl hq hc hsl => lv_ifnull C.1 C.2.1 hd (kk ls H locs cells slots hR hl hq hc hsl)⟩
    · cases hs
  | ifnonnull off =>
    obtain rfl : len = 3 := by simpa [okLen] using hle
    simp only [stp] at hs
    split at hs
    · obtain ⟨t, ht, h2⟩ := Option.map_eq_some_iff.mp hs
      simp only [Prod.mk.injEq] at h2
      obtain ⟨rfl, rfl, rfl, rfl⟩ := h2
      exact ⟨⟨Nat.le_refl _, Nat.le_refl _⟩, fun _ kk ls H locs cells slots hR hl hq hc hsl => lv_ifnonnull C.1 C.2.1 hd (jmp_spec ht) (kk ls H locs cells slots hR hl hq hc hsl)⟩
    · simp only [Option.some.injEq, Prod.mk.injEq] at hs
      obtain ⟨rfl, rfl, rfl, rfl⟩ := hs
      exact ⟨⟨Nat.le_refl _, Nat.le_refl _⟩, fun _ kk ls H locs cells slots hR hl hq hc hsl => lv_ifnonnullN C.1 C.2.1 hd (kk ls H locs cells slots hR hl hq hc hsl)⟩
    · cases hs
  | goto off =>
    obtain rfl : len = 3 := by simpa [okLen] using hle
    simp only [stp] at hs
    obtain ⟨t, ht, h2⟩ := Option.map_eq_some_iff.mp hs
    simp only [Prod.mk.injEq] at h2
    obtain ⟨rfl, rfl, rfl, rfl⟩ := h2
    exact ⟨⟨Nat.le_refl _, Nat.le_refl _⟩, fun _ kk ls H locs cells slots hR hl hq hc hsl => lv_goto C.1 C.2.1 hd (jmp_spec ht) (kk ls H locs cells slots hR hl hq hc hsl)⟩
  | tableswitch d lo hi offs =>
    have e : h' = h := by
      simp only [stp] at hs
      split at hs
      · split at hs
        · obtain ⟨t, ht, h2⟩ := Option.map_eq_some_iff.mp hs
          simp only [Prod.mk.injEq] at h2
          exact h2.2.2.2.symm
        · split at hs
          · obtain ⟨t, ht, h2⟩ := Option.map_eq_some_iff.mp hs
            simp only [Prod.mk.injEq] at h2
            exact h2.2.2.2.symm
          · cases hs
      · cases hs
    exact ⟨by rw [e]; exact ⟨Nat.le_refl _, Nat.le_refl _⟩, fun _ kk => go_sw C hd hs kk⟩
  | getfield x =>
    obtain rfl : len = 3 := by simpa [okLen] using hle
    simp only [stp] at hs
    split at hs
    · obtain ⟨v, hv, h2⟩ := Option.map_eq_some_iff.mp hs
      simp only [Prod.mk.injEq] at h2
      obtain ⟨rfl, rfl, rfl, rfl⟩ := h2
      exact ⟨⟨Nat.le_refl _, Nat.le_refl _⟩, fun _ kk => go_getfield C hd hlk hv kk⟩
    · cases hs
  | putfield x =>
    obtain rfl : len = 3 := by simpa [okLen] using hle
    simp only [stp] at hs
    split at hs
    · obtain ⟨v, hv, h2⟩ := Option.map_eq_some_iff.mp hs
      simp only [Prod.mk.injEq] at h2
      obtain ⟨rfl, rfl, rfl, rfl⟩ := h2
      obtain ⟨z1, z2⟩ := stf_len hv
      exact ⟨⟨by omega, by omega⟩, fun _ kk => go_putfield C hd hlk hv kk⟩
    · cases hs
  | iaload =>
    obtain rfl : len = 1 := by simpa [okLen] using hle
    simp only [stp] at hs
    split at hs
    · obtain ⟨v, hv, h2⟩ := Option.map_eq_some_iff.mp hs
      simp only [Prod.mk.injEq] at h2
      obtain ⟨rfl, rfl, rfl, rfl⟩ := h2
      exact ⟨⟨Nat.le_refl _, Nat.le_refl _⟩, fun _ kk => go_ald C hd (Or.inl ⟨rfl, rfl⟩) hv kk⟩
    · cases hs
  | baload =>
    obtain rfl : len = 1 := by simpa [okLen] using hle
    simp only [stp] at hs
    split at hs
    · obtain ⟨v, hv, h2⟩ := Option.map_eq_some_iff.mp hs
      simp only [Prod.mk.injEq] at h2
      obtain ⟨rfl, rfl, rfl, rfl⟩ := h2
      exact ⟨⟨Nat.le_refl _, Nat.le_refl _⟩, fun _ kk => go_ald C hd (Or.inr (Or.inl ⟨rfl, rfl⟩)) hv kk⟩
    · cases hs
  | laload =>
    obtain rfl : len = 1 := by simpa [okLen] using hle
    simp only [stp] at hs
    split at hs
    · obtain ⟨v, hv, h2⟩ := Option.map_eq_some_iff.mp hs
      simp only [Prod.mk.injEq] at h2
      obtain ⟨rfl, rfl, rfl, rfl⟩ := h2
      exact ⟨⟨Nat.le_refl _, Nat.le_refl _⟩, fun _ kk => go_ald C hd (Or.inr (Or.inr (Or.inl ⟨rfl, rfl⟩))) hv kk⟩
    · cases hs
  | aaload =>
    obtain rfl : len = 1 := by simpa [okLen] using hle
    simp only [stp] at hs
    split at hs
    · obtain ⟨v, hv, h2⟩ := Option.map_eq_some_iff.mp hs
      simp only [Prod.mk.injEq] at h2
      obtain ⟨rfl, rfl, rfl, rfl⟩ := h2
      exact ⟨⟨Nat.le_refl _, Nat.le_refl _⟩, fun _ kk => go_ald C hd (Or.inr (Or.inr (Or.inr ⟨rfl, rfl⟩))) hv kk⟩
    · cases hs
  | iastore =>
    obtain rfl : len = 1 := by simpa [okLen] using hle
    simp only [stp] at hs
    split at hs
    · obtain ⟨v, hv, h2⟩ := Option.map_eq_some_iff.mp hs
      simp only [Prod.mk.injEq] at h2
      obtain ⟨rfl, rfl, rfl, rfl⟩ := h2
      obtain ⟨z1, z2⟩ := ast_len hv
      exact ⟨⟨by omega, by omega⟩, fun _ kk => go_ast C hd (Or.inl ⟨rfl, rfl, _, rfl⟩) hv kk⟩
    · cases hs
  | bastore =>
    obtain rfl : len = 1 := by simpa [okLen] using hle
    simp only [stp] at hs
    split at hs
    · obtain ⟨v, hv, h2⟩ := Option.map_eq_some_iff.mp hs
      simp only [Prod.mk.injEq] at h2
      obtain ⟨rfl, rfl, rfl, rfl⟩ := h2
      obtain ⟨z1, z2⟩ := ast_len hv
      exact ⟨⟨by omega, by omega⟩, fun _ kk => go_ast C hd (Or.inr (Or.inl ⟨rfl, rfl, _, rfl⟩)) hv kk⟩
    · cases hs
  | lastore =>
    obtain rfl : len = 1 := by simpa [okLen] using hle
    simp only [stp] at hs
    split at hs
    · obtain ⟨v, hv, h2⟩ := Option.map_eq_some_iff.mp hs
      simp only [Prod.mk.injEq] at h2
      obtain ⟨rfl, rfl, rfl, rfl⟩ := h2
      obtain ⟨z1, z2⟩ := ast_len hv
      exact ⟨⟨by omega, by omega⟩, fun _ kk => go_ast C hd (Or.inr (Or.inr (Or.inl ⟨rfl, rfl, _, rfl⟩))) hv kk⟩
    · cases hs
  | aastore =>
    obtain rfl : len = 1 := by simpa [okLen] using hle
    simp only [stp] at hs
    split at hs
    · split at hs
      · rename_i hO
        obtain ⟨v, hv, h2⟩ := Option.map_eq_some_iff.mp hs
        simp only [Prod.mk.injEq] at h2
        obtain ⟨rfl, rfl, rfl, rfl⟩ := h2
        obtain ⟨z1, z2⟩ := ast_len hv
        exact ⟨⟨by omega, by omega⟩, fun _ kk => go_ast C hd (Or.inr (Or.inr (Or.inr ⟨rfl, rfl, _, rfl, hO⟩))) hv kk⟩
      · cases hs
    · cases hs
  | arraylength =>
    obtain rfl : len = 1 := by simpa [okLen] using hle
    simp only [stp] at hs
    split at hs
    · obtain ⟨v, hv, h2⟩ := Option.map_eq_some_iff.mp hs
      simp only [Prod.mk.injEq] at h2
      obtain ⟨rfl, rfl, rfl, rfl⟩ := h2
      exact ⟨⟨Nat.le_refl _, Nat.le_refl _⟩, fun _ kk => go_len C hd hv kk⟩
    · cases hs
  | newarray t =>
    obtain rfl : len = 2 := by simpa [okLen] using hle
    simp only [stp] at hs
    split at hs
    · split at hs
      · rename_i hn
        simp only [Option.some.injEq, Prod.mk.injEq] at hs
        obtain ⟨rfl, rfl, rfl, rfl⟩ := hs
        exact ⟨push_len _, fun hcap kk => go_newarray C hd hlk hn.1 hn.2 hcap kk⟩
      · cases hs
    · cases hs
  | anewarray x =>
    obtain rfl : len = 3 := by simpa [okLen] using hle
    simp only [stp] at hs
    split at hs
    · split at hs
      · rename_i hn
        simp only [Option.some.injEq, Prod.mk.injEq] at hs
        obtain ⟨rfl, rfl, rfl, rfl⟩ := hs
        exact ⟨push_len _, fun hcap kk => go_anewarray C hd hlk hn.1 hn.2.1 hcap kk⟩
      · cases hs
    · cases hs
  | new x =>
    obtain rfl : len = 3 := by simpa [okLen] using hle
    simp only [stp, Option.some.injEq, Prod.mk.injEq] at hs
    obtain ⟨rfl, rfl, rfl, rfl⟩ := hs
    exact ⟨push_len _, fun hcap kk => go_new C hd hlk hcap kk⟩
  | invokespecial x =>
    obtain rfl : len = 3 := by simpa [okLen] using hle
    simp only [stp] at hs
    split at hs
    · split at hs
      · rename_i a ha
        simp only [Option.some.injEq, Prod.mk.injEq] at hs
        obtain ⟨rfl, rfl, rfl, rfl⟩ := hs
        refine ⟨⟨Nat.le_refl _, Nat.le_refl _⟩, fun _ kk ls H locs cells slots hR hl hq hc hsl => ?_⟩
        simp only [lnk] at hlk
        rw [if_pos ha] at hlk
        simp only [Bool.and_eq_true, decide_eq_true_eq] at hlk
        obtain ⟨⟨hlk, hf1⟩, hf2⟩ := hlk
        obtain ⟨q, hq2, h2⟩ := List.any_eq_true.mp hlk
        simp only [Bool.and_eq_true, beq_iff_eq] at h2
        have hw := C.2.2.2.2.1 _ (gw_of (List.all_eq_true.mp OLt_ok q hq2))
        rw [h2.1, h2.2] at hw
        obtain ⟨C1, C2, C3, C4, C5, C6, C7, C8, C9, C10, C11, C12⟩ := C
        exact W.objInit C1 C2 C4 hw (C5 _ wOI_in) (C5 _ wOC_in) rfl (by rw [C3]; exact hl.1) rfl hd (by omega) (by show 2 * 0 + 0 + 12 ≤ R.locals; omega) (kk ls H locs cells slots hR hl hq hc hsl)
      · cases hs
    · cases hs
  | _ => exact absurd hs (by simp [stp])
end SOUND
