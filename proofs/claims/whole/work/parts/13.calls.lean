/-! ===== Calls, ends; every run of the small machine is one of the JVM ===== -/
theorem KU.warm {D : va_G} {s U : State} (hW : s.WarmedH U.vm) (h : KU D s) : KU D U := by
  refine ⟨va_K.moved hW.alike h.1, fun w hw => ?_, va_AO.moved hW.alike h.2.2⟩
  have h9 := h.2.1 w hw
  obtain ⟨q, hq, rfl⟩ := List.mem_map.mp hw
  exact va_Nw.warmF hW h9
theorem KU.same {D : va_G} {s U : State} (hvm : s.vm = U.vm) (h : KU D s) : KU D U := by
  have ha : s.vm.Alike U.vm := by rw [hvm]; exact Vm.Alike.refl _
  refine ⟨va_K.moved ha h.1, fun w hw => ?_, va_AO.moved ha h.2.2⟩
  have h9 := h.2.1 w hw
  obtain ⟨q, hq, rfl⟩ := List.mem_map.mp hw
  exact va_Nw.same rfl hvm h9
/-- what a method's start and end are -/
def PcA (D : va_G) (N b : Nat) (as : List Value) (h : AH) : Array Value → State → Prop := fun v U => v = (as.map (cv N b)).toArray ∧ Rel D U N b h U.heap ∧ KU D U
def QcA (D : va_G) (N b : Nat) (r : Option Value) (h : AH) : Array Value → State → Outcome → State → Prop := fun _ _ o t => o = .returned (r.map (cv N b)) ∧ Rel D t N b h t.heap
def rmA (m : Nat) (h h' : AH) : Room := { frames := mFr m, cells := h'.length - h.length, slots := sl h' - sl h, locals := mLo m }
/-- the contract of method m at this run -/
def MetA (l : Launch) (D : va_G) (N b m : Nat) (as : List Value) (h : AH) (r : Option Value) (h' : AH) : Prop :=
  Met l (mY m) (.code (mY m) (mBytes m) (mMax m) (mRet m) :: gw) (rmA m h h') (PcA D N b as h) (QcA D N b r h') (h'.length - h.length) (sl h' - sl h) (fun q => N ≤ q)
theorem PcA.blind {D : va_G} {N b : Nat} {as : List Value} {h : AH} : FrameBlind (PcA D N b as h) := by
  intro a U g mk q
  obtain ⟨q1, q2, q3⟩ := q
  exact ⟨q1, q2.moved (u := U) (U := U.calling g mk a) (Vm.Alike.refl U.vm), KU.same (s := U) (U := U.calling g mk a) rfl q3⟩
section CALLS
variable {p : Program} {l : Launch} {e : Env} {R : Room} {s : State} {mm : MethodId} {args : Array Value} {below : List Frame} {meth : Method} {c : Code} {Q : State → Prop} {D : va_G} {N b m c0 s0 pc pc' aux len : Nat} {L L' : AL} {S S' : List Value} {h h' : AH} {i : Instr}
/-- behind a call -/
theorem call_end {H : Heap} {locs : List Loc} {cells slots mc ms : Nat} {ls : Array Slot} {st0 rest : List Value} {Qa : State → Outcome → State → Prop} {free : Addr → Prop} (hr : va_Run p l e R s mm args below meth c H locs cells slots mc ms (F0 mm pc ls st0) rest Qa free)
    (kk : ∀ (v : Option Value) (st₀ t : State) (H1 : Heap) (locs1 : List Loc), t.heap = H1 → s.vm.Alike t.vm → Qa st₀ (.returned v) t → (∀ q ∈ locs1, q ∈ locs ∨ free q.base) → W p l e R s mm args below meth c H1 locs1 (cells + mc) (slots + ms) Q (F0 mm (pc + 3) ls (v.toList ++ rest))) : W p l e R s mm args below meth c H locs cells slots Q (F0 mm pc ls st0) := by
  intro T hT X
  obtain ⟨v, st₀, t, T', L, h0, X', hL, e1, e2, hq, st⟩ := hr T hT X
  obtain ⟨t2, a1, b1⟩ := kk v st₀ t T'.heap (locs ++ L) e1.symm (by rw [← e2]; exact X'.warmed.alike) hq (fun q h9 => by
    rcases List.mem_append.mp h9 with h9 | h9
    · exact Or.inl h9
    · exact Or.inr (hL q h9)) T' rfl X'
  exact ⟨t2, st t2 a1, b1⟩
theorem okM_use {m : Nat} (hm : m < 130) : ∃ pc ini kd wd sel, MPt[m]? = some (pc, ini, kd, wd, sel) ∧ mKind m = kd ∧ Cond.initialized (mY m).cls ∈ gw ∧ plainName (mY m).cls = true ∧ ((mY m).cls ≠ "java/lang/invoke/MethodHandle" ∧ (mY m).cls ≠ "java/lang/invoke/VarHandle") ∧ (parseMethodDescriptor (mY m).desc).map (fun d => d.parameters.length) = some (mArgs m) ∧ (kd = 0 → Cond.static (mY m) ∈ gw) ∧ (kd = 1 → Cond.instanceMethod (mY m) ∈ gw ∧ (mY m).name = "<init>" ∧ mRet m = none) ∧ (kd = 2 → Cond.instanceMethod (mY m) ∈ gw ∧ Cond.selects (mY m).cls (mY m) (mY m) ∈ gw) := by
  have h := okM_all m hm
  unfold okM at h
  split at h
  · cases h
  · rename_i pc ini kd wd sel hq
    simp only [Bool.and_eq_true, decide_eq_true_eq] at h
    obtain ⟨⟨⟨⟨h2, h3⟩, h4⟩, h5⟩, h6⟩ := h
    refine ⟨pc, ini, kd, wd, sel, hq, by simp [mKind, List.getD_eq_getElem?_getD, hq], gw_of h2, h3, h4, h5, fun h9 => ?_, fun h9 => ?_, fun h9 => ?_⟩
    · subst h9
      exact gw_of h6
    · subst h9
      simp only [Bool.and_eq_true, decide_eq_true_eq] at h6
      exact ⟨gw_of h6.1.1, h6.1.2, h6.2⟩
    · subst h9
      simp only [Bool.and_eq_true] at h6
      exact ⟨gw_of h6.1, gw_of h6.2⟩
theorem good_of {m : Nat} (hm : m < 130) : GoodIn gw (Cond.code (mY m) (mBytes m) (mMax m) (mRet m) :: gw) := by
  intro w hw
  rcases List.mem_cons.mp hw with rfl | hw
  · exact gw_good _ (mc_all m hm)
  · exact gw_good w hw
theorem isCall_spec {S as rest : List Value} {cc : Nat} (hk : isCall i aux S h = some (cc, as, rest)) : cc = aux ∧ (rest.map fun v => v.category).sum ≤ 8 ∧ (len0 as).length ≤ mMax aux ∧
    ((∃ x, i = .invokevirtual x ∧ ∃ a As, as = .ref a :: As ∧ As.length = mArgs aux ∧ S = As.reverse ++ .ref a :: rest ∧ isO h a (mCls aux) = true) ∨
     (∃ x, i = .invokespecial x ∧ aux ≠ 999 ∧ ∃ a As, as = .ref a :: As ∧ As.length = mArgs aux ∧ S = As.reverse ++ .ref a :: rest) ∨
     (∃ x, i = .invokestatic x ∧ as.length = mArgs aux ∧ S = as.reverse ++ rest)) := by
  have key : ∀ {a : Value} {rest : List Value}, S.drop (mArgs aux) = a :: rest → ((S.take (mArgs aux)).reverse).length = mArgs aux ∧ S = ((S.take (mArgs aux)).reverse).reverse ++ a :: rest := by
    intro a rest hd
    have hl : mArgs aux < S.length := by
      rcases Nat.lt_or_ge (mArgs aux) S.length with h9 | h9
      · exact h9
      · rw [List.drop_eq_nil_of_le h9] at hd; cases hd
    refine ⟨by rw [List.length_reverse, List.length_take]; omega, ?_⟩
    rw [List.reverse_reverse, ← hd, List.take_append_drop]
  cases i with
  | invokevirtual x =>
    simp only [isCall] at hk
    split at hk
    · rename_i a rest' hd
      split at hk
      · rename_i hc
        simp only [Option.some.injEq, Prod.mk.injEq] at hk
        obtain ⟨rfl, rfl, rfl⟩ := hk
        obtain ⟨k1, k2⟩ := key hd
        exact ⟨rfl, hc.2.1, hc.2.2, Or.inl ⟨x, rfl, a, _, rfl, k1, k2, hc.1⟩⟩
      · cases hk
    · cases hk
  | invokespecial x =>
    simp only [isCall] at hk
    split at hk
    · cases hk
    · rename_i h999
      split at hk
      · rename_i a rest' hd
        split at hk
        · rename_i hc
          simp only [Option.some.injEq, Prod.mk.injEq] at hk
          obtain ⟨rfl, rfl, rfl⟩ := hk
          obtain ⟨k1, k2⟩ := key hd
          exact ⟨rfl, hc.1, hc.2, Or.inr (Or.inl ⟨x, rfl, h999, a, _, rfl, k1, k2⟩)⟩
        · cases hk
      · cases hk
  | invokestatic x =>
    simp only [isCall] at hk
    split at hk
    · rename_i hc
      simp only [Option.some.injEq, Prod.mk.injEq] at hk
      obtain ⟨rfl, rfl, rfl⟩ := hk
      refine ⟨rfl, hc.2.1, hc.2.2, Or.inr (Or.inr ⟨x, rfl, by rw [List.length_reverse, List.length_take]; omega, ?_⟩)⟩
      rw [List.reverse_reverse, List.take_append_drop]
    · cases hk
  | _ => exact absurd hk (by simp [isCall])
set_option maxHeartbeats 2000000 in
theorem go_call (C : Cx D p R s mm args meth c m) (hd : decode (mBytes m) pc = .ok (i, len)) (hle : okLen i len = true) (hlk : lnk m i aux = true) {cc : Nat} {as rest : List Value} {r : Option Value} {h1 : AH} (hk : isCall i aux S h = some (cc, as, rest)) (hM : MetA l D N b cc as h r h1) (hmono : h.length ≤ h1.length ∧ sl h ≤ sl h1) (hcap : h1.length ≤ R.cells + c0 ∧ sl h1 ≤ R.slots + s0)
    (kk : Go p l e R s mm args below meth c Q D N b m c0 s0 (pc + 3) L (r.toList ++ rest) h1) : Go p l e R s mm args below meth c Q D N b m c0 s0 pc L S h := by
  obtain ⟨rfl, hrest, hlen, hform⟩ := isCall_spec hk
  intro ls H locs cells slots hR hl hq hc hsl
  obtain ⟨C1, C2, C3, C4, C5, C6, C7, C8, C9, C10, C11, C12⟩ := C
  have hroom : ∀ {x : Nat}, roomOk m cc = true → mFr cc + 1 ≤ R.frames ∧ 8 + (mMax cc + 11) + mLo cc ≤ R.locals := by
    intro x h9
    unfold roomOk at h9
    simp only [Bool.and_eq_true, decide_eq_true_eq] at h9
    omega
  have hrm : 2 * (F0 mm pc ls (S.map (cv N b))).monitorRoom + (((rest.map (cv N b))).map fun v => v.category).sum ≤ 8 := by
    rw [cv_cats]
    show 2 * 0 + _ ≤ 8
    omega
  have hmc : cells + (h1.length - h.length) ≤ R.cells ∧ slots + (sl h1 - sl h) ≤ R.slots := by omega
  have hpre : ∀ U : State, U.heap = H → s.WarmedH U.vm → PcA D N b as h (as.map (cv N b)).toArray U := fun U hU hW => ⟨rfl, by rw [hU]; exact hR.moved hW.alike, C6.warm hW⟩
  have fin2 : ∀ (v : Option Value) (st₀ t : State) (H1 : Heap) (locs1 : List Loc), t.heap = H1 → s.vm.Alike t.vm → QcA D N b r h1 (as.map (cv N b)).toArray st₀ (.returned v) t → (∀ q ∈ locs1, q ∈ locs ∨ N ≤ q.base) → W p l e R s mm args below meth c H1 locs1 (cells + (h1.length - h.length)) (slots + (sl h1 - sl h)) Q (F0 mm (pc + 3) ls (v.toList ++ rest.map (cv N b))) := by
    intro v st₀ t H1 locs1 ht hvm hQ hlocs
    obtain ⟨hv, hR1⟩ := hQ
    rw [ht] at hR1
    have hv' : v = r.map (cv N b) := by cases hv; rfl
    have := kk ls H1 locs1 (cells + (h1.length - h.length)) (slots + (sl h1 - sl h)) (hR1.moved hvm.symm) hl (fun q h9 => (hlocs q h9).elim (hq q) id) (by omega) (by omega)
    rw [List.map_append] at this
    rw [hv']
    have e9 : (r.toList).map (cv N b) = (r.map (cv N b)).toList := by cases r <;> rfl
    rw [e9] at this
    exact this
  rcases hform with ⟨x, rfl, a, As, rfl, hAl, hS, hO⟩ | ⟨x, rfl, h999, a, As, rfl, hAl, hS⟩ | ⟨x, rfl, hAl, hS⟩
  · obtain rfl : len = 3 := by simpa [okLen] using hle
    simp only [lnk, Bool.and_eq_true, decide_eq_true_eq] at hlk
    obtain ⟨⟨⟨hm, hml⟩, hkd⟩, hro⟩ := hlk
    obtain ⟨_, _, kd, _, _, -, hkd2, wi, -, wy, wd, -, -, w2⟩ := okM_use hm
    obtain ⟨w21, w22⟩ := w2 (by omega)
    have hlink := C5 _ (ML_in hml)
    obtain ⟨fs, hO2⟩ := isO_spec hO
    obtain ⟨r0, hr0, -, cellV, k1, k2, k3, -⟩ : obAt D N b (am N b a) (mCls cc) fs H := hR.at hO2
    have hKc := C6.1.1 _ _ hr0
    have hcN := (cl_ok _ _ hr0).2.2.2.2.2.2
    have hcw : CallW R s args (cName (mCls m)) (mY cc).cls x (mY cc) (mBytes cc) (mMax cc) (mRet cc) (Cond.code (mY cc) (mBytes cc) (mMax cc) (mRet cc) :: gw) (rmA cc h h1) (h1.length - h.length) (sl h1 - sl h) (mArgs cc) :=
      ⟨callB_of (ws' := gw) (mArgs cc) C5 (good_of hm) rfl rfl rfl (C5 _ wi) hlink ⟨wy.1, wy.2, wd⟩ (hroom (x := 0) hro), C5 _ w21, C5 _ w22⟩
    exact call_end (va_runV (cc := mBytes m) (nL := mMax m) (Ts := gw) (own := cName (mCls m)) (C := (mY cc).cls) (As := As.map (cv N b)) (rest := rest.map (cv N b)) (b := am N b a) ⟨C1, C2, C3, C4, C5⟩ hM hcw ⟨PcA.blind, ⟨cellV, k1, by rw [k3]; rfl, by rw [k2, show (mY cc).cls = cName (mCls cc) from rfl, hcN]; exact hKc.2.1⟩, hpre⟩ rfl (by rw [List.length_map]; exact hAl) hl.1 (by rw [hS]; simp [cv]) hrm hd hmc) fin2
  · obtain rfl : len = 3 := by simpa [okLen] using hle
    simp only [lnk] at hlk
    rw [if_neg h999] at hlk
    simp only [Bool.and_eq_true, decide_eq_true_eq] at hlk
    obtain ⟨⟨⟨hm, hml⟩, hkd⟩, hro⟩ := hlk
    obtain ⟨_, _, kd, _, _, -, hkd2, wi, -, wy, wd, -, w1, -⟩ := okM_use hm
    obtain ⟨w11, w12, w13⟩ := w1 (by omega)
    have hlink := C5 _ (ML_in hml)
    have hcb : CallB R s args (cName (mCls m)) x (mY cc) (mBytes cc) (mMax cc) none (Cond.code (mY cc) (mBytes cc) (mMax cc) (mRet cc) :: gw) (rmA cc h h1) (h1.length - h.length) (sl h1 - sl h) (mArgs cc) := by
      have := callB_of (R := R) (ws' := gw) (mArgs cc) C5 (good_of hm) rfl (rfl : (rmA cc h h1).cells = _) (rfl : (rmA cc h h1).slots = _) (C5 _ wi) hlink ⟨wy.1, wy.2, wd⟩ (hroom (x := 0) hro)
      rw [w13] at this ⊢
      exact this
    exact call_end (va_runI (cc := mBytes m) (nL := mMax m) (Ts := gw) (own := cName (mCls m)) (As := As.map (cv N b)) (rest := rest.map (cv N b)) (b := am N b a) ⟨C1, C2, C3, C4, C5⟩ hM ⟨hcb, w12, C5 _ w11⟩ ⟨PcA.blind, hpre⟩ rfl (by rw [List.length_map]; exact hAl) hl.1 (by rw [hS]; simp [cv]) hrm hd hmc) fin2
  · obtain rfl : len = 3 := by simpa [okLen] using hle
    simp only [lnk, Bool.and_eq_true, decide_eq_true_eq] at hlk
    obtain ⟨⟨⟨hm, hml⟩, hkd⟩, hro⟩ := hlk
    obtain ⟨_, _, kd, _, _, -, hkd2, wi, -, wy, wd, w0, -, -⟩ := okM_use hm
    have w01 := w0 (by omega)
    have hlink := C5 _ (ML_in hml)
    have hcb := callB_of (R := R) (ws' := gw) (mArgs cc) C5 (good_of hm) rfl (rfl : (rmA cc h h1).cells = _) (rfl : (rmA cc h h1).slots = _) (C5 _ wi) hlink ⟨wy.1, wy.2, wd⟩ (hroom (x := 0) hro)
    exact call_end (va_runS (cc := mBytes m) (nL := mMax m) (Ts := gw) (own := cName (mCls m)) (As := as.map (cv N b)) (rest := rest.map (cv N b)) ⟨C1, C2, C3, C4, C5⟩ hM ⟨hcb, C5 _ w01⟩ ⟨PcA.blind, hpre⟩ rfl (by rw [List.length_map]; exact hAl) hl.1 (by rw [hS]; simp) hrm hd hmc) fin2
end CALLS
