section EXEC
variable {p : Program} {l : Launch} {e : Env} {R : Room} {s : State} {mm : MethodId} {args : Array Value} {below : List Frame} {meth : Method} {c : Code} {Q : State → Prop} {D : va_G} {N b m c0 s0 pc pc' aux len : Nat} {L L' : AL} {S S' : List Value} {h h' : AH} {i : Instr}
theorem go_ret (C : Cx D p R s mm args meth c m) (hd : decode (mBytes m) pc = .ok (i, len)) (hle : okLen i len = true) {r : Option Value} (hr : isRet m i S = some r) : Go p l e R s mm args below meth c (MQ below (QcA D N b r h) args s (h.length - c0) (sl h - s0) (fun q => N ≤ q)) D N b m c0 s0 pc L S h := by
  intro ls H locs cells slots hR hl hq hc hsl
  have e1 : h.length - c0 = cells := by omega
  have e2 : sl h - s0 = slots := by omega
  rw [e1, e2]
  obtain ⟨C1, C2, C3, C4, C5, C6, C7, C8, C9, C10, C11, C12⟩ := C
  cases i with
  | return_ =>
    obtain rfl : len = 1 := by simpa [okLen] using hle
    simp only [isRet] at hr
    split at hr
    · split at hr
      · rename_i hn
        cases hr
        exact W.vret C1 C2 (by rw [C8]; exact hn) (fun t ht hW => ⟨rfl, by rw [ht]; exact hR.moved hW.alike⟩) hq hd C9
      · cases hr
    · cases hr
  | ireturn =>
    obtain rfl : len = 1 := by simpa [okLen] using hle
    simp only [isRet] at hr
    split at hr
    · split at hr
      · rename_i ty hty
        split at hr
        · rename_i hn
          cases hr
          exact W.zret C1 C2 (by rw [C8]; exact hty) hn (fun t ht hW => ⟨rfl, by rw [ht]; exact hR.moved hW.alike⟩) hq hd C9
        · cases hr
      · cases hr
    · cases hr
  | lreturn =>
    obtain rfl : len = 1 := by simpa [okLen] using hle
    simp only [isRet] at hr
    split at hr
    · split at hr
      · rename_i hn
        cases hr
        exact W.lret C1 C2 (by rw [C8]; exact hn) (fun t ht hW => ⟨rfl, by rw [ht]; exact hR.moved hW.alike⟩) hq hd C9
      · cases hr
    · cases hr
  | areturn =>
    obtain rfl : len = 1 := by simpa [okLen] using hle
    simp only [isRet] at hr
    split at hr
    · split at hr
      · rename_i v hn
        cases hr
        refine W.aret C1 C2 (by rw [C8]; exact hn.1) (Or.inl ⟨_, rfl⟩) ?_ (fun t ht hW => ⟨rfl, by rw [ht]; exact hR.moved hW.alike⟩) hq hd C9
        rcases isR_of hn.2 with rfl | ⟨x, rfl⟩
        · exact Or.inl rfl
        · exact Or.inr ⟨_, rfl⟩
      · cases hr
    · cases hr
  | _ => exact absurd hr (by simp [isRet])
theorem isCall_lt (hlk : lnk m i aux = true) {cc : Nat} {as rest : List Value} (hk : isCall i aux S h = some (cc, as, rest)) : cc < 130 := by
  obtain ⟨rfl, -, -, hform⟩ := isCall_spec hk
  rcases hform with ⟨x, rfl, -⟩ | ⟨x, rfl, h999, -⟩ | ⟨x, rfl, -⟩
  · simp only [lnk, Bool.and_eq_true, decide_eq_true_eq] at hlk
    exact hlk.1.1.1
  · simp only [lnk] at hlk
    rw [if_neg h999] at hlk
    simp only [Bool.and_eq_true, decide_eq_true_eq] at hlk
    exact hlk.1.1.1
  · simp only [lnk, Bool.and_eq_true, decide_eq_true_eq] at hlk
    exact hlk.1.1.1
end EXEC
/-- what a run of the small machine gives of the JVM -/
def Snd (l : Launch) (D : va_G) (N b m pc : Nat) (L : AL) (S : List Value) (h : AH) (r : Option Value) (h' : AH) : Prop :=
  (h.length ≤ h'.length ∧ sl h ≤ sl h') ∧ ∀ (p : Program) (e : Env) (R : Room) (s : State) (mm : MethodId) (args : Array Value) (below : List Frame) (meth : Method) (c : Code) (Q : State → Prop) (c0 s0 : Nat), Cx D p R s mm args meth c m → (h'.length ≤ R.cells + c0 ∧ sl h' ≤ R.slots + s0) →
    (∀ (pc : Nat) (L : AL) (S : List Value) (i : Instr) (len aux : Nat), cd m pc = some (i, len, aux) → isRet m i S = some r → Go p l e R s mm args below meth c Q D N b m c0 s0 pc L S h') → Go p l e R s mm args below meth c Q D N b m c0 s0 pc L S h
theorem met_of {l : Launch} {D : va_G} {N b m : Nat} {as : List Value} {h h' : AH} {r : Option Value} (hm : m < 130) (hle : (len0 as).length ≤ mMax m) (H : Snd l D N b m 0 (ent m as) [] h r h') : MetA l D N b m as h r h' := by
  obtain ⟨⟨m1, m2⟩, hS⟩ := H
  obtain ⟨_, _, kd, _, _, -, -, -, wp, -⟩ := okM_use hm
  refine Met.ofW (cc := mBytes m) (maxL := mMax m) (ret := mRet m) wp rfl ?_
  intro p e s mm args below meth c s₁ B hml hv
  obtain ⟨rfl, hR, hK⟩ := hv
  have hts := atoms_spec (ws := Cond.code (mY m) (mBytes m) (mMax m) (mRet m) :: gw) B.pre
  have C : Cx D p (rmA m h h') s mm (as.map (cv N b)).toArray meth c m := ⟨B.exec, B.bytes, hml, findClass_of_methodNamed B.named, fun w hw => hts w (List.mem_cons_of_mem _ hw), hK, fun h9 => (name_of_methodNamed B.named B.method).1.trans h9, B.returns, B.notSynchronized, Nat.le_refl _, Nat.le_refl _, by omega⟩
  have hG := hS p e (rmA m h h') s mm (as.map (cv N b)).toArray below meth c (MQ below (QcA D N b r h') (as.map (cv N b)).toArray s (h'.length - h.length) (sl h' - sl h) (fun q => N ≤ q)) h.length (sl h) C ⟨by show h'.length ≤ (h'.length - h.length) + h.length; omega, by show sl h' ≤ (sl h' - sl h) + sl h; omega⟩ (fun pc L S i len aux hcd hr => by
    obtain ⟨d1, d2, -⟩ := okPc_use (oc_all m (by omega) pc) hcd
    exact go_ret C d1 d2 hr)
  rw [lg_entry_eq]
  exact hG _ s.heap [] 0 0 hR (lR_ent as hle) (fun q hq => by cases hq) (Nat.zero_add _) (Nat.zero_add _)
theorem snd_exec (l : Launch) (D : va_G) (N b : Nat) : ∀ (n m pc : Nat) (L : AL) (S : List Value) (h : AH) (r : Option Value) (h' : AH), m < 131 → exec n m pc L S h = some (r, h') → Snd l D N b m pc L S h r h' := by
  intro n
  induction n with
  | zero => intro m pc L S h r h' hm he; simp [exec] at he
  | succ n ih =>
    intro m pc L S h r h' hm he
    rw [exec] at he
    cases hc : cd m pc with
    | none => rw [hc] at he; simp at he
    | some q =>
      obtain ⟨i, len, aux⟩ := q
      rw [hc] at he
      simp only at he
      obtain ⟨d1, d2, d3⟩ := okPc_use (oc_all m hm pc) hc
      cases hr : isRet m i S with
      | some v =>
        rw [hr] at he
        simp only [Option.some.injEq, Prod.mk.injEq] at he
        obtain ⟨rfl, rfl⟩ := he
        exact ⟨⟨Nat.le_refl _, Nat.le_refl _⟩, fun p e R s mm args below meth c Q c0 s0 C hcap fin => fin pc L S i len aux hc hr⟩
      | none =>
        rw [hr] at he
        simp only at he
        cases hk : isCall i aux S h with
        | some q =>
          obtain ⟨cc, as, rest⟩ := q
          rw [hk] at he
          simp only at he
          have hcc := isCall_lt d3 hk
          have hlen : (len0 as).length ≤ mMax cc := by
            obtain ⟨rfl, -, h9, -⟩ := isCall_spec hk
            exact h9
          cases hx : exec n cc 0 (ent cc as) [] h with
          | none => rw [hx] at he; simp at he
          | some q =>
            obtain ⟨v, h1⟩ := q
            rw [hx] at he
            simp only at he
            have s1 := ih cc 0 (ent cc as) [] h v h1 (by omega) hx
            have hM := met_of hcc hlen s1
            obtain ⟨⟨a1, a2⟩, s2⟩ := ih m (pc + 3) L (v.toList ++ rest) h1 r h' hm he
            obtain ⟨⟨b1, b2⟩, -⟩ := s1
            exact ⟨⟨by omega, by omega⟩, fun p e R s mm args below meth c Q c0 s0 C hcap fin => go_call C d1 d2 d3 hk hM ⟨b1, b2⟩ ⟨by omega, by omega⟩ (s2 p e R s mm args below meth c Q c0 s0 C hcap fin)⟩
        | none =>
          rw [hk] at he
          simp only at he
          cases hs : stp m i aux pc L S h with
          | none => rw [hs] at he; simp at he
          | some q =>
            obtain ⟨pc', L', S', h1⟩ := q
            rw [hs] at he
            simp only at he
            obtain ⟨⟨a1, a2⟩, s2⟩ := ih m pc' L' S' h1 r h' hm he
            refine ⟨?_, fun p e R s mm args below meth c Q c0 s0 C hcap fin => ?_⟩
            · have := stp_mono d3 hs
              omega
            · exact (go_stp C d1 d2 d3 hs).2 ⟨by omega, by omega⟩ (s2 p e R s mm args below meth c Q c0 s0 C hcap fin)
