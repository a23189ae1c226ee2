section PLAIN
variable {p : Program} {l : Launch} {e : Env} {R : Room} {s : State} {mm : MethodId} {args : Array Value} {below : List Frame} {meth : Method} {c : Code} {Q : State → Prop} {D : va_G} {N b m c0 s0 pc pc' aux : Nat} {L L' : AL} {S S' : List Value} {h h' : AH}
theorem isI_of {v : Value} (hv : isI v = true) : ∃ x, v = .int x := by
  cases v <;> first | exact ⟨_, rfl⟩ | cases hv
theorem isJ_of {v : Value} (hv : isJ v = true) : ∃ x, v = .long x := by
  cases v <;> first | exact ⟨_, rfl⟩ | cases hv
theorem isR_of {v : Value} (hv : isR v = true) : v = .null ∨ ∃ x, v = .ref x := by
  cases v <;> first | exact Or.inl rfl | exact Or.inr ⟨_, rfl⟩ | cases hv
theorem go_if (C : Cx D p R s mm args meth c m) {cn : Jvm.ClassFile.Cond} {off : Int} (hd : decode (mBytes m) pc = .ok (.ifCond cn off, 3)) (hs : br1 cn off pc L S h = some (pc', L', S', h')) (kk : Go p l e R s mm args below meth c Q D N b m c0 s0 pc' L' S' h') : Go p l e R s mm args below meth c Q D N b m c0 s0 pc L S h := by
  unfold br1 at hs
  split at hs
  · rename_i x S0
    obtain ⟨t, ht, h2⟩ := Option.map_eq_some_iff.mp hs
    simp only [Prod.mk.injEq] at h2
    obtain ⟨e1, e2, e3, e4⟩ := h2
    subst e2; subst e3; subst e4
    have ht := jmp_spec ht
    intro ls H locs cells slots hR hl hq hc hsl
    have k9 := kk ls H locs cells slots hR hl hq hc hsl
    rw [← e1] at k9
    cases cn with
    | eq => exact lv_if_eq C.1 C.2.1 hd ht (fun hc => by simpa [cI, hc] using k9) (fun hc => by simpa [cI, hc] using k9)
    | ne => exact lv_if_ne C.1 C.2.1 hd ht (fun hc => by simpa [cI, hc] using k9) (fun hc => by simpa [cI, hc] using k9)
    | lt => exact lv_if_lt C.1 C.2.1 hd ht (fun hc => by rw [if_pos (by simp only [cI]; exact decide_eq_true hc)] at k9; exact k9) (fun hc => by rw [if_neg (by simp only [cI]; exact fun q => hc (of_decide_eq_true q))] at k9; exact k9)
    | ge => exact lv_if_ge C.1 C.2.1 hd ht (fun hc => by rw [if_pos (by simp only [cI]; exact decide_eq_true hc)] at k9; exact k9) (fun hc => by rw [if_neg (by simp only [cI]; exact fun q => hc (of_decide_eq_true q))] at k9; exact k9)
    | gt => exact lv_if_gt C.1 C.2.1 hd ht (fun hc => by rw [if_pos (by simp only [cI]; exact decide_eq_true hc)] at k9; exact k9) (fun hc => by rw [if_neg (by simp only [cI]; exact fun q => hc (of_decide_eq_true q))] at k9; exact k9)
    | le => exact lv_if_le C.1 C.2.1 hd ht (fun hc => by rw [if_pos (by simp only [cI]; exact decide_eq_true hc)] at k9; exact k9) (fun hc => by rw [if_neg (by simp only [cI]; exact fun q => hc (of_decide_eq_true q))] at k9; exact k9)
  · cases hs
theorem go_icmp (C : Cx D p R s mm args meth c m) {cn : Jvm.ClassFile.Cond} {off : Int} (hd : decode (mBytes m) pc = .ok (.if_icmp cn off, 3)) (hs : br2 cn off pc L S h = some (pc', L', S', h')) (kk : Go p l e R s mm args below meth c Q D N b m c0 s0 pc' L' S' h') : Go p l e R s mm args below meth c Q D N b m c0 s0 pc L S h := by
  unfold br2 at hs
  split at hs
  · rename_i y x S0
    obtain ⟨t, ht, h2⟩ := Option.map_eq_some_iff.mp hs
    simp only [Prod.mk.injEq] at h2
    obtain ⟨e1, e2, e3, e4⟩ := h2
    subst e2; subst e3; subst e4
    have ht := jmp_spec ht
    intro ls H locs cells slots hR hl hq hc hsl
    have k9 := kk ls H locs cells slots hR hl hq hc hsl
    rw [← e1] at k9
    cases cn with
    | eq => exact lv_icmp_eq C.1 C.2.1 hd ht (fun hc => by simpa [cI, hc] using k9) (fun hc => by simpa [cI, hc] using k9)
    | ne => exact lv_icmp_ne C.1 C.2.1 hd ht (fun hc => by simpa [cI, hc] using k9) (fun hc => by simpa [cI, hc] using k9)
    | lt => exact lv_icmp_lt C.1 C.2.1 hd ht (fun hc => by rw [if_pos (by simp only [cI]; exact decide_eq_true hc)] at k9; exact k9) (fun hc => by rw [if_neg (by simp only [cI]; exact fun q => hc (of_decide_eq_true q))] at k9; exact k9)
    | ge => exact lv_icmp_ge C.1 C.2.1 hd ht (fun hc => by rw [if_pos (by simp only [cI]; exact decide_eq_true hc)] at k9; exact k9) (fun hc => by rw [if_neg (by simp only [cI]; exact fun q => hc (of_decide_eq_true q))] at k9; exact k9)
    | gt => exact lv_icmp_gt C.1 C.2.1 hd ht (fun hc => by rw [if_pos (by simp only [cI]; exact decide_eq_true hc)] at k9; exact k9) (fun hc => by rw [if_neg (by simp only [cI]; exact fun q => hc (of_decide_eq_true q))] at k9; exact k9)
    | le => exact lv_icmp_le C.1 C.2.1 hd ht (fun hc => by rw [if_pos (by simp only [cI]; exact decide_eq_true hc)] at k9; exact k9) (fun hc => by rw [if_neg (by simp only [cI]; exact fun q => hc (of_decide_eq_true q))] at k9; exact k9)
  · cases hs
theorem go_sw (C : Cx D p R s mm args meth c m) {d lo hi : Int} {offs : Array Int} {len : Nat} (hd : decode (mBytes m) pc = .ok (.tableswitch d lo hi offs, len)) (hs : stp m (.tableswitch d lo hi offs) aux pc L S h = some (pc', L', S', h')) (kk : Go p l e R s mm args below meth c Q D N b m c0 s0 pc' L' S' h') : Go p l e R s mm args below meth c Q D N b m c0 s0 pc L S h := by
  simp only [stp] at hs
  split at hs
  · rename_i x S0
    split at hs
    · rename_i hx
      obtain ⟨t, ht, h2⟩ := Option.map_eq_some_iff.mp hs
      simp only [Prod.mk.injEq] at h2
      obtain ⟨e1, e2, e3, e4⟩ := h2
      subst e1; subst e2; subst e3; subst e4
      intro ls H locs cells slots hR hl hq hc hsl
      exact lv_tableOut C.1 C.2.1 hd hx (jmp_spec ht) (kk ls H locs cells slots hR hl hq hc hsl)
    · rename_i hx
      split at hs
      · rename_i o ho
        obtain ⟨t, ht, h2⟩ := Option.map_eq_some_iff.mp hs
        simp only [Prod.mk.injEq] at h2
        obtain ⟨e1, e2, e3, e4⟩ := h2
        subst e1; subst e2; subst e3; subst e4
        intro ls H locs cells slots hR hl hq hc hsl
        exact lv_tableIn C.1 C.2.1 hd (fun q => hx (Or.inl q)) (fun q => hx (Or.inr q)) ho (jmp_spec ht) (kk ls H locs cells slots hR hl hq hc hsl)
      · cases hs
  · cases hs
theorem go_sto (C : Cx D p R s mm args meth c m) {i : Instr} {k len : Nat} {v : Value} (hd : decode (mBytes m) pc = .ok (i, len)) (hst : st1 L k v = some L')
    (hi : (i = .istore k ∧ len = 2 ∧ ∃ x, v = .int x) ∨ (∃ f : Fin 4, i = .istore_n f ∧ len = 1 ∧ (f : Nat) = k ∧ ∃ x, v = .int x) ∨ (i = .astore k ∧ len = 2 ∧ isR v = true) ∨ (∃ f : Fin 4, i = .astore_n f ∧ len = 1 ∧ (f : Nat) = k ∧ isR v = true))
    (kk : Go p l e R s mm args below meth c Q D N b m c0 s0 (pc + len) L' S h) : Go p l e R s mm args below meth c Q D N b m c0 s0 pc L (v :: S) h := by
  intro ls H locs cells slots hR hl hq hc hsl
  have hn : k < mMax m := by rw [← hl.2.1]; exact (st1_spec _ _ _ _ hst).1
  rcases hi with ⟨rfl, rfl, x, rfl⟩ | ⟨f, rfl, rfl, hf, x, rfl⟩ | ⟨rfl, rfl, hv⟩ | ⟨f, rfl, rfl, hf, hv⟩
  · exact lv_istore C.1 C.2.1 hd hl.has hn rfl (fun ls' hh => kk ls' H locs cells slots hR (hl.st1 hst hh) hq hc hsl)
  · exact lv_istore_n C.1 C.2.1 hd hf hl.has hn rfl (fun ls' hh => kk ls' H locs cells slots hR (hl.st1 hst hh) hq hc hsl)
  · rcases isR_of hv with rfl | ⟨x, rfl⟩
    · exact lv_astoreN C.1 C.2.1 hd hl.has hn rfl (fun ls' hh => kk ls' H locs cells slots hR (hl.st1 hst hh) hq hc hsl)
    · exact lv_astore C.1 C.2.1 hd hl.has hn rfl (fun ls' hh => kk ls' H locs cells slots hR (hl.st1 hst hh) hq hc hsl)
  · rcases isR_of hv with rfl | ⟨x, rfl⟩
    · exact lv_astore_nN C.1 C.2.1 hd hf hl.has hn rfl (fun ls' hh => kk ls' H locs cells slots hR (hl.st1 hst hh) hq hc hsl)
    · exact lv_astore_n C.1 C.2.1 hd hf hl.has hn rfl (fun ls' hh => kk ls' H locs cells slots hR (hl.st1 hst hh) hq hc hsl)
theorem go_stoJ (C : Cx D p R s mm args meth c m) {i : Instr} {k len : Nat} {x : Int64} (hd : decode (mBytes m) pc = .ok (i, len)) (hst : st2 L k (.long x) = some L')
    (hi : (i = .lstore k ∧ len = 2) ∨ (∃ f : Fin 4, i = .lstore_n f ∧ len = 1 ∧ (f : Nat) = k))
    (kk : Go p l e R s mm args below meth c Q D N b m c0 s0 (pc + len) L' S h) : Go p l e R s mm args below meth c Q D N b m c0 s0 pc L (.long x :: S) h := by
  intro ls H locs cells slots hR hl hq hc hsl
  have hn : k + 1 < mMax m := by rw [← hl.2.1]; exact (st2_spec _ _ _ _ hst).1
  rcases hi with ⟨rfl, rfl⟩ | ⟨f, rfl, rfl, hf⟩
  · exact lv_lstore C.1 C.2.1 hd hl.has hn rfl (fun ls' hh => kk ls' H locs cells slots hR (hl.st2 hst hh) hq hc hsl)
  · exact lv_lstore_n C.1 C.2.1 hd hf hl.has hn rfl (fun ls' hh => kk ls' H locs cells slots hR (hl.st2 hst hh) hq hc hsl)
theorem go_ld (C : Cx D p R s mm args meth c m) {i : Instr} {k len : Nat} {v : Value} (hd : decode (mBytes m) pc = .ok (i, len)) (hL : L[k]? = some (some v))
    (hi : (i = .iload k ∧ len = 2 ∧ isI v = true) ∨ (∃ f : Fin 4, i = .iload_n f ∧ len = 1 ∧ (f : Nat) = k ∧ isI v = true) ∨ (i = .lload k ∧ len = 2 ∧ isJ v = true) ∨ (∃ f : Fin 4, i = .lload_n f ∧ len = 1 ∧ (f : Nat) = k ∧ isJ v = true) ∨ (i = .aload k ∧ len = 2 ∧ isR v = true) ∨ (∃ f : Fin 4, i = .aload_n f ∧ len = 1 ∧ (f : Nat) = k ∧ isR v = true))
    (kk : Go p l e R s mm args below meth c Q D N b m c0 s0 (pc + len) L (v :: S) h) : Go p l e R s mm args below meth c Q D N b m c0 s0 pc L S h := by
  intro ls H locs cells slots hR hl hq hc hsl
  have k9 := kk ls H locs cells slots hR hl hq hc hsl
  have hv := hl.2.2.2 k v hL
  rcases hi with ⟨rfl, rfl, h1⟩ | ⟨f, rfl, rfl, hf, h1⟩ | ⟨rfl, rfl, h1⟩ | ⟨f, rfl, rfl, hf, h1⟩ | ⟨rfl, rfl, h1⟩ | ⟨f, rfl, rfl, hf, h1⟩
  · obtain ⟨x, rfl⟩ := isI_of h1
    exact lv_iload C.1 C.2.1 hd hv k9
  · obtain ⟨x, rfl⟩ := isI_of h1
    exact lv_iload_n C.1 C.2.1 hd hf hv k9
  · obtain ⟨x, rfl⟩ := isJ_of h1
    exact lv_lload C.1 C.2.1 hd hv k9
  · obtain ⟨x, rfl⟩ := isJ_of h1
    exact lv_lload_n C.1 C.2.1 hd hf hv k9
  · rcases isR_of h1 with rfl | ⟨x, rfl⟩
    · exact lv_aloadN C.1 C.2.1 hd hv k9
    · exact lv_aload C.1 C.2.1 hd hv k9
  · rcases isR_of h1 with rfl | ⟨x, rfl⟩
    · exact lv_aload_nN C.1 C.2.1 hd hf hv k9
    · exact lv_aload_n C.1 C.2.1 hd hf hv k9
theorem go_iinc (C : Cx D p R s mm args meth c m) {k : Nat} {n : Int} {x : Int32} (hd : decode (mBytes m) pc = .ok (.iinc k n, 3)) (hL : L[k]? = some (some (.int x))) (hst : st1 L k (.int (x + Int32.ofInt n)) = some L')
    (kk : Go p l e R s mm args below meth c Q D N b m c0 s0 (pc + 3) L' S h) : Go p l e R s mm args below meth c Q D N b m c0 s0 pc L S h := by
  intro ls H locs cells slots hR hl hq hc hsl
  have hn : k < mMax m := by rw [← hl.2.1]; exact (st1_spec _ _ _ _ hst).1
  obtain ⟨j, hj⟩ := List.getElem?_of_mem (al_mem (N := N) (b := b).mpr ⟨.int x, hL, rfl⟩)
  exact lv_iinc C.1 C.2.1 hd hl.has hj rfl hn rfl (fun ls' hh => kk ls' H locs cells slots hR (hl.st1 hst hh) hq hc hsl)
end PLAIN
