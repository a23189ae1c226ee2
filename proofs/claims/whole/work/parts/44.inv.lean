/-! ===== What stands between the calls ===== -/
abbrev LO : Type := Nat → Option Lst
def lsO (Lo : LO) (q : Nat) : Lst := (Lo q).getD nilL
def upO (Lo : LO) (q : Nat) (o : Option Lst) : LO := fun j => if j = q then o else Lo j
theorem upO_self (Lo : LO) (q : Nat) (o : Option Lst) : upO Lo q o q = o := if_pos rfl
theorem upO_ne (Lo : LO) {q x : Nat} (o : Option Lst) (h : x ≠ q) : upO Lo q o x = Lo x := if_neg h
theorem lsO_self (Lo : LO) (q : Nat) (st : Lst) : lsO (upO Lo q (some st)) q = st := by unfold lsO; rw [upO_self]; rfl
theorem lsO_ne (Lo : LO) {q x : Nat} (o : Option Lst) (h : x ≠ q) : lsO (upO Lo q o) x = lsO Lo x := by unfold lsO; rw [upO_ne Lo o h]
theorem lsO_of {Lo : LO} {q : Nat} {st : Lst} (h : Lo q = some st) : lsO Lo q = st := by unfold lsO; rw [h]; rfl
def IX (f : FB) (Lo : LO) : Prop := BOk f ∧ LfO f ∧ ∀ q, q < 8 → PI f q (Lo q)
theorem IX.ld {f : FB} {Lo : LO} (h : IX f Lo) : ∀ x, x < 8 → LdR f x (lsO Lo x) := fun x hx => (h.2.2 x hx).ld h.1 hx
theorem IX.okL {f : FB} {Lo : LO} (h : IX f Lo) {x : Nat} (hx : x < 8) : OkL (lsO Lo x) := (h.ld x hx).ok
theorem IX.okE {f : FB} {Lo : LO} (h : IX f Lo) : ∀ x, x < 8 → ∀ e ∈ (lsO Lo x).1, OkE e := fun x hx e he => ((h.okL hx).2.1 e he).1
theorem IX.rc {f : FB} {Lo : LO} (h : IX f Lo) {a : Nat} (ha : a < 8) : froS (lsO Lo) a < 256 ∧ ∀ x, (froS (lsO Lo) a).testBit x = true ↔ Rch (lsO Lo) a x := froS_spec h.okE ha
theorem IX.lt {f : FB} {Lo : LO} (h : IX f Lo) {a x : Nat} (ha : a < 8) (hr : Rch (lsO Lo) a x) : x < 8 := bit_lt (h.rc ha).1 (((h.rc ha).2 x).mpr hr)
theorem IX.kid {f : FB} {Lo : LO} (h : IX f Lo) {x y : Nat} (hx : x < 8) (hy : y ∈ kids (lsO Lo x).1) : y < 8 := by
  obtain ⟨e, he, h1, h2⟩ := kids_mem.mp hy
  rcases (h.okE x hx e he).2.2 with ⟨g, -⟩ | ⟨-, g, -⟩
  · omega
  · omega
/-- a commit, a begin: the pure effect -/
def cmq (f : FB) (q : Nat) (os : List Opn) (st : Lst) : Bool × FB := cmF f ((act f q).getD 0) (encS os) (apS st os)
def bgq (f : FB) (q : Nat) : Bool × FB := anF f q (act f q) []
theorem IX.acS {f : FB} {Lo : LO} (h : IX f Lo) {q : Nat} (hq : q < 8) {st : Lst} (hs : Lo q = some st) : ∃ b, act f q = some b := by
  have := h.2.2 q hq
  rw [hs] at this
  obtain ⟨b, rs, hb, -⟩ := this
  exact ⟨b, act_of h.1 hq hb⟩
theorem IX.acN {f : FB} {Lo : LO} (h : IX f Lo) {q : Nat} (hq : q < 8) (hs : Lo q = none) : act f q = none := by
  have := h.2.2 q hq
  rw [hs] at this
  exact act_none this
theorem IX.cm {f : FB} {Lo : LO} (h : IX f Lo) {q : Nat} (hq : q < 8) {st : Lst} (hs : Lo q = some st) {os : List Opn} (hF : FitS st os) : ((cmq f q os st).1 = true → IX (cmq f q os st).2 (upO Lo q (some (apS st os)))) ∧ ((cmq f q os st).1 = false → IX (cmq f q os st).2 Lo) := by
  have hp := h.2.2 q hq
  rw [hs] at hp
  obtain ⟨b, rs, hb, rfl⟩ := hp
  have ha := act_of h.1 hq hb
  have e : cmq f q os (apS nilL rs.flatten) = cmF f b (encS os) (apS (apS nilL rs.flatten) os) := by unfold cmq; rw [ha]; rfl
  obtain ⟨⟨k1, k2⟩, k3⟩ := cmt_keep h.1 hq hb hF
  rw [e]
  refine ⟨fun hr => ⟨BOk_cmF h.1 _ _ _, LfO_cmF h.2.1 _ _ _, fun x hx => ?_⟩, fun hr => ⟨BOk_cmF h.1 _ _ _, LfO_cmF h.2.1 _ _ _, fun x hx => ?_⟩⟩
  · by_cases hxq : x = q
    · subst hxq
      rw [upO_self]
      exact k1 hr
    · rw [upO_ne _ _ hxq]
      exact PI.same (k3 x hxq).1 (k3 x hxq).2 (h.2.2 x hx)
  · by_cases hxq : x = q
    · subst hxq
      rw [hs]
      exact k2 hr
    · exact PI.same (k3 x hxq).1 (k3 x hxq).2 (h.2.2 x hx)
theorem cmq_dark {f : FB} {q : Nat} {os : List Opn} {st : Lst} (hd : f.2.2.2.2 = false) : ((cmq f q os st).1 = false → (cmq f q os st).2.2.2.2.2 = true) ∧ ((cmq f q os st).1 = true → (cmq f q os st).2.2.2.2.2 = false) := cmF_dark f _ _ _ hd
theorem bgq_dark {f : FB} {q : Nat} : ((bgq f q).1 = false → (bgq f q).2.2.2.2.2 = true) ∧ ((bgq f q).1 = true → (bgq f q).2.2.2.2.2 = false) := anF_dark f q _ _
theorem IX.bg {f : FB} {Lo : LO} (h : IX f Lo) {q : Nat} (hq : q < 8) : ((bgq f q).1 = true → IX (bgq f q).2 (upO Lo q (some nilL))) ∧ ((bgq f q).1 = false → IX (bgq f q).2 Lo) := by
  obtain ⟨⟨k1, k2⟩, k3⟩ := bg_keep h.1 hq (h.2.2 q hq)
  refine ⟨fun hr => ⟨BOk_anF h.1 _ _ _, LfO_anF h.2.1 _ _ _, fun x hx => ?_⟩, fun hr => ⟨BOk_anF h.1 _ _ _, LfO_anF h.2.1 _ _ _, fun x hx => ?_⟩⟩
  · by_cases hxq : x = q
    · subst hxq
      rw [upO_self]
      exact k1 hr
    · rw [upO_ne _ _ hxq]
      exact PI.same (k3 x hxq).1 (k3 x hxq).2 (h.2.2 x hx)
  · by_cases hxq : x = q
    · subst hxq
      exact k2 hr
    · exact PI.same (k3 x hxq).1 (k3 x hxq).2 (h.2.2 x hx)
def ThS (Lo : LO) (th : Nat → Int32) : Prop := ∀ k, k < 8 → th k = bB ((froS (lsO Lo) 0).testBit k)
def LiA (Lo : LO) (li : Nat → LiS) : Prop := ∀ q, q < 8 → LiR (li q) (lsO Lo q).1 (lsO Lo q).2
def tIn (Lo : LO) (x : Int32) : Bool := inB x 8 && (froS (lsO Lo) 0).testBit x.toNatClampNeg
theorem tIn_nI {Lo : LO} {q : Nat} (hq : q < 8) : tIn Lo (nI q) = (froS (lsO Lo) 0).testBit q := by
  unfold tIn
  rw [inB_nI hq (by decide), nI_clamp (by omega), Bool.true_and]
theorem LiA.up {Lo : LO} {li : Nat → LiS} (h : LiA Lo li) {q : Nat} {l' : LiS} {st : Lst} (hl : LiR l' st.1 st.2) : LiA (upO Lo q (some st)) (upL li q l') := fun x hx => by
  by_cases hxq : x = q
  · subst hxq
    rw [lsO_self, upL_self]
    exact hl
  · rw [lsO_ne _ _ hxq, upL_ne _ _ hxq]
    exact h x hx
section TREE
variable {sc : AC} {f : FB} {s c : OpS} {th be qu : Nat → Int32} {mo : Int32} {li : Nat → LiS} {mm : AH} {Lo : LO}
theorem c81a {F : FlS} (hX : ∃ g, IX g Lo) (hA : LiA Lo li) {a : Nat} (ha : a < 8) : ∃ be' qu', RunM 81 [.ref 1, .int (nI a), .ref 9] (hp sc (F) s c th be qu mo li mm) = some (none, (hp sc (F) s c th (be') (qu') mo li mm)) ∧ ∀ k, k < 8 → be' k = bB ((froS (lsO Lo) a).testBit k) := by
  obtain ⟨g, hX⟩ := hX
  obtain ⟨t', qu', Q, r1, r2, r3⟩ := c81 (sc := sc) (F := F) (s := s) (c := c) (t := be) (t2 := th) (qu := qu) (mo := mo) (li := li) (mm := mm) (v := true) ha (lsO Lo) (fun x hr => ⟨hX.lt ha hr, hA x (hX.lt ha hr)⟩)
  refine ⟨t', qu', r1, fun k hk => ?_⟩
  rw [r2 k hk]
  congr 1
  rw [Bool.eq_iff_iff, decide_eq_true_eq, r3, (hX.rc ha).2]
theorem c81t {F : FlS} (hX : ∃ g, IX g Lo) (hA : LiA Lo li) : ∃ th' qu', RunM 81 [.ref 1, .int 0, .ref 8] (hp sc (F) s c th be qu mo li mm) = some (none, (hp sc (F) s c (th') be (qu') mo li mm)) ∧ ThS Lo th' := by
  obtain ⟨g, hX⟩ := hX
  obtain ⟨t', qu', Q, r1, r2, r3⟩ := c81 (sc := sc) (F := F) (s := s) (c := c) (t := th) (t2 := be) (qu := qu) (mo := mo) (li := li) (mm := mm) (v := false) (a := 0) (by decide) (lsO Lo) (fun x hr => ⟨hX.lt (by decide) hr, hA x (hX.lt (by decide) hr)⟩)
  refine ⟨t', qu', r1, fun k hk => ?_⟩
  rw [r2 k hk]
  congr 1
  rw [Bool.eq_iff_iff, decide_eq_true_eq, r3, (hX.rc (a := 0) (by decide)).2]
theorem c72 {mt : Bool} : RunM 72 [.ref 1] (hp sc (fB f) s c th be qu (bB mt) li mm) = some (some (.int (if f.2.2.2.2 = true then -9 else if mt = true then -1 else -8)), (hp sc (fB f) s c th be qu (bB mt) li mm)) := by
  obtain ⟨cl, er, dn, lf, dk⟩ := f
  cases dk <;> cases mt <;> simp only [e72, s72_0, s72_0n, s72_1, s72_4, s72_7, s72_10, s72_12, s72_13, s72_13n, s72_14, s72_17, s72_20, s72_21, s72_24, s72_26, Option.bind_some, Option.bind_none, Option.toList_some, Option.toList_none, List.nil_append, List.cons_append, ↓reduceIte, reduceCtorEq, cl1_i, cl1_r, cl1_n, cl1_0, cl1_J, okS_0, okS_1, okS_2, okS_3, okS_4, bB_0, bB_and, z_0, z_1, z_10, bB_t, bB_f, Bool.true_eq_false, Bool.false_eq_true, gT0, gT1, gT2, gT3, gT4, gT5, gT6, gF0, gF1, gF2, gF3, gF4, gS0, gS1, gC0, gC1, iT, iF, iS, iC, sT6_0, sT6_1, sF2, sF3, sF4_0, sF4_1, sS1, sC1, c3] <;> rfl
theorem c73f {F : FlS} {v : Int32} : RunM 73 [.ref 1, .int 0, .int v] (hp sc (F) s c th be qu mo li mm) = some (some (.int (-9)), (hp sc (F) s c th be qu (0) li mm)) := by
  simp only [e73, s73_0, s73_1, s73_4, s73_4n, s73_5, s73_6, s73_9, s73_11, Option.bind_some, Option.bind_none, Option.toList_some, Option.toList_none, List.nil_append, List.cons_append, ↓reduceIte, reduceCtorEq, cl1_i, cl1_r, cl1_n, cl1_0, cl1_J, okS_0, okS_1, okS_2, okS_3, okS_4, bB_0, bB_and, z_0, z_1, z_10, bB_t, bB_f, Bool.true_eq_false, Bool.false_eq_true, gT0, gT1, gT2, gT3, gT4, gT5, gT6, gF0, gF1, gF2, gF3, gF4, gS0, gS1, gC0, gC1, iT, iF, iS, iC, sT6_0, sT6_1, sF2, sF3, sF4_0, sF4_1, sS1, sC1]
theorem c73t {F : FlS} {v : Int32} (hX : ∃ g, IX g Lo) (hA : LiA Lo li) : ∃ th' qu', RunM 73 [.ref 1, .int 1, .int v] (hp sc (F) s c th be qu mo li mm) = some (some (.int v), (hp sc (F) s c (th') be (qu') mo li mm)) ∧ ThS Lo th' := by
  obtain ⟨th', qu', r1, r2⟩ := c81t (sc := sc) (F := F) (s := s) (c := c) (th := th) (be := be) (qu := qu) (mo := mo) (mm := mm) hX hA
  refine ⟨th', qu', ?_, r2⟩
  simp only [e73, s73_0, s73_1, s73_12, s73_12n, s73_13, s73_14, s73_14n, s73_15, s73_18, Option.bind_some, Option.bind_none, Option.toList_some, Option.toList_none, List.nil_append, List.cons_append, ↓reduceIte, reduceCtorEq, cl1_i, cl1_r, cl1_n, cl1_0, cl1_J, okS_0, okS_1, okS_2, okS_3, okS_4, bB_0, bB_and, z_0, z_1, z_10, bB_t, bB_f, Bool.true_eq_false, Bool.false_eq_true, gT0, gT1, gT2, gT3, gT4, gT5, gT6, gF0, gF1, gF2, gF3, gF4, gS0, gS1, gC0, gC1, iT, iF, iS, iC, sT6_0, sT6_1, sF2, sF3, sF4_0, sF4_1, sS1, sC1, r1]
  simp only [s73_21, s73_22, Option.bind_some, Option.bind_none, Option.toList_some, Option.toList_none, List.nil_append, List.cons_append, ↓reduceIte, reduceCtorEq, cl1_i, cl1_r, cl1_n, cl1_0, cl1_J, okS_0, okS_1, okS_2, okS_3, okS_4, bB_0, bB_and, z_0, z_1, z_10, bB_t, bB_f, Bool.true_eq_false, Bool.false_eq_true, gT0, gT1, gT2, gT3, gT4, gT5, gT6, gF0, gF1, gF2, gF3, gF4, gS0, gS1, gC0, gC1, iT, iF, iS, iC, sT6_0, sT6_1, sF2, sF3, sF4_0, sF4_1, sS1, sC1]
theorem c77y {F : FlS} (hT : ThS Lo th) {q : Nat} (hq : q < 8) (hb : (froS (lsO Lo) 0).testBit q = true) : RunM 77 [.ref 1, .int (nI q)] (hp sc (F) s c th be qu mo li mm) = some (some (.ref (13 + 6 * q)), (hp sc (F) s c th be qu mo li mm)) := by
  have hi : inB (nI q) 8 = true := inB_nI hq (by decide)
  have h1 : th q = 1 := by rw [hT q hq, hb]; rfl
  simp only [e77, s77_0, s77_1, s77_4, s77_7, s77_7n, s77_8, s77_11, s77_12, s77_13, s77_16, s77_16n, s77_17, s77_20, s77_21, s77_22, s77_25, s77_26, s77_26n, Option.bind_some, Option.bind_none, Option.toList_some, Option.toList_none, List.nil_append, List.cons_append, ↓reduceIte, reduceCtorEq, cl1_i, cl1_r, cl1_n, cl1_0, cl1_J, okS_0, okS_1, okS_2, okS_3, okS_4, bB_0, bB_and, z_0, z_1, z_10, bB_t, bB_f, Bool.true_eq_false, Bool.false_eq_true, gT0, gT1, gT2, gT3, gT4, gT5, gT6, gF0, gF1, gF2, gF3, gF4, gS0, gS1, gC0, gC1, iT, iF, iS, iC, sT6_0, sT6_1, sF2, sF3, sF4_0, sF4_1, sS1, sC1, c75, hi, a8 hi, nI_clamp (show q < 2 ^ 31 by omega), h1, a7 hq]
theorem c77n {F : FlS} (hT : ThS Lo th) {x : Int32} (hb : tIn Lo x = false) : RunM 77 [.ref 1, .int x] (hp sc (F) s c th be qu mo li mm) = some (some .null, (hp sc (F) s c th be qu mo li mm)) := by
  unfold tIn at hb
  cases hi : inB x 8 with
  | false => simp only [e77, s77_0, s77_1, s77_4, s77_7, s77_7n, s77_8, s77_11, s77_12, s77_13, s77_16, s77_16n, s77_17, s77_20, s77_21, s77_22, s77_25, s77_26, s77_26n, Option.bind_some, Option.bind_none, Option.toList_some, Option.toList_none, List.nil_append, List.cons_append, ↓reduceIte, reduceCtorEq, cl1_i, cl1_r, cl1_n, cl1_0, cl1_J, okS_0, okS_1, okS_2, okS_3, okS_4, bB_0, bB_and, z_0, z_1, z_10, bB_t, bB_f, Bool.true_eq_false, Bool.false_eq_true, gT0, gT1, gT2, gT3, gT4, gT5, gT6, gF0, gF1, gF2, gF3, gF4, gS0, gS1, gC0, gC1, iT, iF, iS, iC, sT6_0, sT6_1, sF2, sF3, sF4_0, sF4_1, sS1, sC1, c75, hi]
  | true =>
    obtain ⟨q, hq, rfl⟩ := inB_of hi (by decide)
    rw [hi, Bool.true_and, nI_clamp (by omega)] at hb
    have h1 : th q = 0 := by rw [hT q hq, hb]; rfl
    simp only [e77, s77_0, s77_1, s77_4, s77_7, s77_7n, s77_8, s77_11, s77_12, s77_13, s77_16, s77_16n, s77_17, s77_20, s77_21, s77_22, s77_25, s77_26, s77_26n, Option.bind_some, Option.bind_none, Option.toList_some, Option.toList_none, List.nil_append, List.cons_append, ↓reduceIte, reduceCtorEq, cl1_i, cl1_r, cl1_n, cl1_0, cl1_J, okS_0, okS_1, okS_2, okS_3, okS_4, bB_0, bB_and, z_0, z_1, z_10, bB_t, bB_f, Bool.true_eq_false, Bool.false_eq_true, gT0, gT1, gT2, gT3, gT4, gT5, gT6, gF0, gF1, gF2, gF3, gF4, gS0, gS1, gC0, gC1, iT, iF, iS, iC, sT6_0, sT6_1, sF2, sF3, sF4_0, sF4_1, sS1, sC1, c75, hi, a8 hi, nI_clamp (show q < 2 ^ 31 by omega), h1]
theorem c78y {F : FlS} (hT : ThS Lo th) {q : Nat} (hq : q < 8) (hb : (froS (lsO Lo) 0).testBit q = true) : RunM 78 [.ref 1, .int (nI q)] (hp sc (F) s c th be qu (1) li mm) = some (some (.ref (13 + 6 * q)), (hp sc (F) s c th be qu (1) li mm)) := by
  simp only [e78, s78_0, s78_0n, s78_1, s78_4, s78_7, s78_7n, s78_8, s78_9, s78_12, s78_15, s78_16, s78_16n, Option.bind_some, Option.bind_none, Option.toList_some, Option.toList_none, List.nil_append, List.cons_append, ↓reduceIte, reduceCtorEq, cl1_i, cl1_r, cl1_n, cl1_0, cl1_J, okS_0, okS_1, okS_2, okS_3, okS_4, bB_0, bB_and, z_0, z_1, z_10, bB_t, bB_f, Bool.true_eq_false, Bool.false_eq_true, gT0, gT1, gT2, gT3, gT4, gT5, gT6, gF0, gF1, gF2, gF3, gF4, gS0, gS1, gC0, gC1, iT, iF, iS, iC, sT6_0, sT6_1, sF2, sF3, sF4_0, sF4_1, sS1, sC1, c77y hT hq hb]
theorem c78n {F : FlS} (hT : ThS Lo th) {x : Int32} (hb : tIn Lo x = false) : RunM 78 [.ref 1, .int x] (hp sc (F) s c th be qu (1) li mm) = some (some .null, (hp sc (F) s c th be qu (1) li mm)) := by
  simp only [e78, s78_0, s78_0n, s78_1, s78_4, s78_7, s78_7n, s78_8, s78_9, s78_12, s78_15, s78_16, s78_16n, Option.bind_some, Option.bind_none, Option.toList_some, Option.toList_none, List.nil_append, List.cons_append, ↓reduceIte, reduceCtorEq, cl1_i, cl1_r, cl1_n, cl1_0, cl1_J, okS_0, okS_1, okS_2, okS_3, okS_4, bB_0, bB_and, z_0, z_1, z_10, bB_t, bB_f, Bool.true_eq_false, Bool.false_eq_true, gT0, gT1, gT2, gT3, gT4, gT5, gT6, gF0, gF1, gF2, gF3, gF4, gS0, gS1, gC0, gC1, iT, iF, iS, iC, sT6_0, sT6_1, sF2, sF3, sF4_0, sF4_1, sS1, sC1, c77n hT hb]
theorem c78u {F : FlS} {x : Int32} : RunM 78 [.ref 1, .int x] (hp sc (F) s c th be qu (0) li mm) = some (some .null, (hp sc (F) s c th be qu (0) li mm)) := by
  simp only [e78, s78_0, s78_0n, s78_1, s78_4, s78_7, s78_7n, s78_8, s78_9, s78_12, s78_15, s78_16, s78_16n, Option.bind_some, Option.bind_none, Option.toList_some, Option.toList_none, List.nil_append, List.cons_append, ↓reduceIte, reduceCtorEq, cl1_i, cl1_r, cl1_n, cl1_0, cl1_J, okS_0, okS_1, okS_2, okS_3, okS_4, bB_0, bB_and, z_0, z_1, z_10, bB_t, bB_f, Bool.true_eq_false, Bool.false_eq_true, gT0, gT1, gT2, gT3, gT4, gT5, gT6, gF0, gF1, gF2, gF3, gF4, gS0, gS1, gC0, gC1, iT, iF, iS, iC, sT6_0, sT6_1, sF2, sF3, sF4_0, sF4_1, sS1, sC1]
def lowF (s : Nat) : Nat → Nat → Option Nat
  | 0, _ => none
  | n + 1, q => if s.testBit q = true then lowF s n (q + 1) else some q
theorem c79_loop {F : FlS} (hT : ThS Lo th) : ∀ (n q : Nat), q + n = 8 → Run 79 2 [some (.ref 1), some (.int (nI q))] [] (hp sc (F) s c th be qu mo li mm) = some (some (.int (oI (lowF (froS (lsO Lo) 0) n q))), (hp sc (F) s c th be qu mo li mm)) := by
  intro n
  induction n with
  | zero =>
    intro q h
    obtain rfl : q = 8 := by omega
    have h3 : ¬ nI 8 < 8 := by decide
    simp only [s79_2, s79_3, s79_5, s79_25, s79_26, Option.bind_some, Option.bind_none, Option.toList_some, Option.toList_none, List.nil_append, List.cons_append, ↓reduceIte, reduceCtorEq, cl1_i, cl1_r, cl1_n, cl1_0, cl1_J, okS_0, okS_1, okS_2, okS_3, okS_4, bB_0, bB_and, z_0, z_1, z_10, bB_t, bB_f, Bool.true_eq_false, Bool.false_eq_true, gT0, gT1, gT2, gT3, gT4, gT5, gT6, gF0, gF1, gF2, gF3, gF4, gS0, gS1, gC0, gC1, iT, iF, iS, iC, sT6_0, sT6_1, sF2, sF3, sF4_0, sF4_1, sS1, sC1, h3]
    rfl
  | succ n ih =>
    intro q h
    have hq : q < 8 := by omega
    have h3 : nI q < 8 := nI_lit (k := 8) hq (by decide)
    have hi : inB (nI q) 8 = true := inB_nI hq (by decide)
    simp only [s79_2, s79_3, s79_5, s79_8, s79_8n, s79_9, s79_12, s79_13, Option.bind_some, Option.bind_none, Option.toList_some, Option.toList_none, List.nil_append, List.cons_append, ↓reduceIte, reduceCtorEq, cl1_i, cl1_r, cl1_n, cl1_0, cl1_J, okS_0, okS_1, okS_2, okS_3, okS_4, bB_0, bB_and, z_0, z_1, z_10, bB_t, bB_f, Bool.true_eq_false, Bool.false_eq_true, gT0, gT1, gT2, gT3, gT4, gT5, gT6, gF0, gF1, gF2, gF3, gF4, gS0, gS1, gC0, gC1, iT, iF, iS, iC, sT6_0, sT6_1, sF2, sF3, sF4_0, sF4_1, sS1, sC1, h3, a8 hi, nI_clamp (show q < 2 ^ 31 by omega), hT q hq]
    unfold lowF
    cases hb : (froS (lsO Lo) 0).testBit q with
    | true =>
      simp only [s79_14, s79_19, s79_22, Option.bind_some, Option.bind_none, Option.toList_some, Option.toList_none, List.nil_append, List.cons_append, ↓reduceIte, reduceCtorEq, cl1_i, cl1_r, cl1_n, cl1_0, cl1_J, okS_0, okS_1, okS_2, okS_3, okS_4, bB_0, bB_and, z_0, z_1, z_10, bB_t, bB_f, Bool.true_eq_false, Bool.false_eq_true, gT0, gT1, gT2, gT3, gT4, gT5, gT6, gF0, gF1, gF2, gF3, gF4, gS0, gS1, gC0, gC1, iT, iF, iS, iC, sT6_0, sT6_1, sF2, sF3, sF4_0, sF4_1, sS1, sC1, nI_1]
      exact ih (q + 1) (by omega)
    | false =>
      simp only [s79_14, s79_17, s79_18, Option.bind_some, Option.bind_none, Option.toList_some, Option.toList_none, List.nil_append, List.cons_append, ↓reduceIte, reduceCtorEq, cl1_i, cl1_r, cl1_n, cl1_0, cl1_J, okS_0, okS_1, okS_2, okS_3, okS_4, bB_0, bB_and, z_0, z_1, z_10, bB_t, bB_f, Bool.true_eq_false, Bool.false_eq_true, gT0, gT1, gT2, gT3, gT4, gT5, gT6, gF0, gF1, gF2, gF3, gF4, gS0, gS1, gC0, gC1, iT, iF, iS, iC, sT6_0, sT6_1, sF2, sF3, sF4_0, sF4_1, sS1, sC1]
      rfl
theorem c79 {F : FlS} (hT : ThS Lo th) : RunM 79 [.ref 1] (hp sc (F) s c th be qu mo li mm) = some (some (.int (oI (lowF (froS (lsO Lo) 0) 8 0))), (hp sc (F) s c th be qu mo li mm)) := by
  have := c79_loop (sc := sc) (F := F) (s := s) (c := c) (be := be) (qu := qu) (mo := mo) (li := li) (mm := mm) hT 8 0 rfl
  rw [nI_0] at this
  rw [← this]
  simp only [e79, s79_0, s79_1, Option.bind_some, Option.bind_none, Option.toList_some, Option.toList_none, List.nil_append, List.cons_append, ↓reduceIte, reduceCtorEq, cl1_i, cl1_r, cl1_n, cl1_0, cl1_J, okS_0, okS_1, okS_2, okS_3, okS_4, bB_0, bB_and, z_0, z_1, z_10, bB_t, bB_f, Bool.true_eq_false, Bool.false_eq_true, gT0, gT1, gT2, gT3, gT4, gT5, gT6, gF0, gF1, gF2, gF3, gF4, gS0, gS1, gC0, gC1, iT, iF, iS, iC, sT6_0, sT6_1, sF2, sF3, sF4_0, sF4_1, sS1, sC1]
theorem c80_loop (hX : IX f Lo) : ∀ (n q : Nat) (s : OpS) (li : Nat → LiS) (z : Option Value), q + n = 8 → (∀ k, k < q → LiR (li k) (lsO Lo k).1 (lsO Lo k).2) → ∃ s' li', Run 80 2 [some (.ref 1), some (.int (nI q)), z] [] (hp sc (fB f) s c th be qu mo li mm) = some (none, (hp sc (fB f) (s') c th be qu mo (li') mm)) ∧ LiA Lo li' := by
  intro n
  induction n with
  | zero =>
    intro q s li z h hA
    obtain rfl : q = 8 := by omega
    have h3 : ¬ nI 8 < 8 := by decide
    refine ⟨s, li, ?_, hA⟩
    simp only [s80_2, s80_3, s80_5, s80_28, Option.bind_some, Option.bind_none, Option.toList_some, Option.toList_none, List.nil_append, List.cons_append, ↓reduceIte, reduceCtorEq, cl1_i, cl1_r, cl1_n, cl1_0, cl1_J, okS_0, okS_1, okS_2, okS_3, okS_4, bB_0, bB_and, z_0, z_1, z_10, bB_t, bB_f, Bool.true_eq_false, Bool.false_eq_true, gT0, gT1, gT2, gT3, gT4, gT5, gT6, gF0, gF1, gF2, gF3, gF4, gS0, gS1, gC0, gC1, iT, iF, iS, iC, sT6_0, sT6_1, sF2, sF3, sF4_0, sF4_1, sS1, sC1, h3]
  | succ n ih =>
    intro q s li z h hA
    have hq : q < 8 := by omega
    have h3 : nI q < 8 := nI_lit (k := 8) hq (by decide)
    obtain ⟨l1, s1, r1, r2⟩ := c15 (sc := sc) (s := s) (c := c) (th := th) (be := be) (qu := qu) (mo := mo) (li := li) (mm := mm) hX.1 hq (hX.ld q hq)
    obtain ⟨s2, li2, r3, r4⟩ := ih (q + 1) s1 (upL li q l1) (some (.ref (13 + 6 * q))) (by omega) (fun k hk => by
      by_cases hkq : k = q
      · subst hkq
        rw [upL_self]
        exact r2
      · rw [upL_ne _ _ hkq]
        exact hA k (by omega))
    refine ⟨s2, li2, ?_, r4⟩
    rw [← r3, s80_2]
    simp only [s80_3, s80_5, s80_8, s80_8n, s80_9, Option.bind_some, Option.bind_none, Option.toList_some, Option.toList_none, List.nil_append, List.cons_append, ↓reduceIte, reduceCtorEq, cl1_i, cl1_r, cl1_n, cl1_0, cl1_J, okS_0, okS_1, okS_2, okS_3, okS_4, bB_0, bB_and, z_0, z_1, z_10, bB_t, bB_f, Bool.true_eq_false, Bool.false_eq_true, gT0, gT1, gT2, gT3, gT4, gT5, gT6, gF0, gF1, gF2, gF3, gF4, gS0, gS1, gC0, gC1, iT, iF, iS, iC, sT6_0, sT6_1, sF2, sF3, sF4_0, sF4_1, sS1, sC1, h3]
    simp only [s80_10, Option.bind_some, Option.bind_none, Option.toList_some, Option.toList_none, List.nil_append, List.cons_append, ↓reduceIte, reduceCtorEq, cl1_i, cl1_r, cl1_n, cl1_0, cl1_J, okS_0, okS_1, okS_2, okS_3, okS_4, bB_0, bB_and, z_0, z_1, z_10, bB_t, bB_f, Bool.true_eq_false, Bool.false_eq_true, gT0, gT1, gT2, gT3, gT4, gT5, gT6, gF0, gF1, gF2, gF3, gF4, gS0, gS1, gC0, gC1, iT, iF, iS, iC, sT6_0, sT6_1, sF2, sF3, sF4_0, sF4_1, sS1, sC1, c76 hq]
    simp only [s80_13, s80_13n, s80_14, s80_14n, s80_15, s80_15n, s80_18, s80_18n, Option.bind_some, Option.bind_none, Option.toList_some, Option.toList_none, List.nil_append, List.cons_append, ↓reduceIte, reduceCtorEq, cl1_i, cl1_r, cl1_n, cl1_0, cl1_J, okS_0, okS_1, okS_2, okS_3, okS_4, bB_0, bB_and, z_0, z_1, z_10, bB_t, bB_f, Bool.true_eq_false, Bool.false_eq_true, gT0, gT1, gT2, gT3, gT4, gT5, gT6, gF0, gF1, gF2, gF3, gF4, gS0, gS1, gC0, gC1, iT, iF, iS, iC, sT6_0, sT6_1, sF2, sF3, sF4_0, sF4_1, sS1, sC1]
    simp only [s80_19, Option.bind_some, Option.bind_none, Option.toList_some, Option.toList_none, List.nil_append, List.cons_append, ↓reduceIte, reduceCtorEq, cl1_i, cl1_r, cl1_n, cl1_0, cl1_J, okS_0, okS_1, okS_2, okS_3, okS_4, bB_0, bB_and, z_0, z_1, z_10, bB_t, bB_f, Bool.true_eq_false, Bool.false_eq_true, gT0, gT1, gT2, gT3, gT4, gT5, gT6, gF0, gF1, gF2, gF3, gF4, gS0, gS1, gC0, gC1, iT, iF, iS, iC, sT6_0, sT6_1, sF2, sF3, sF4_0, sF4_1, sS1, sC1, iO hq, r1]
    simp only [s80_22, s80_25, Option.bind_some, Option.bind_none, Option.toList_some, Option.toList_none, List.nil_append, List.cons_append, ↓reduceIte, reduceCtorEq, cl1_i, cl1_r, cl1_n, cl1_0, cl1_J, okS_0, okS_1, okS_2, okS_3, okS_4, bB_0, bB_and, z_0, z_1, z_10, bB_t, bB_f, Bool.true_eq_false, Bool.false_eq_true, gT0, gT1, gT2, gT3, gT4, gT5, gT6, gF0, gF1, gF2, gF3, gF4, gS0, gS1, gC0, gC1, iT, iF, iS, iC, sT6_0, sT6_1, sF2, sF3, sF4_0, sF4_1, sS1, sC1, nI_1]
theorem c80 (hX : IX f Lo) : ∃ s' li', RunM 80 [.ref 1] (hp sc (fB f) s c th be qu mo li mm) = some (none, (hp sc (fB f) (s') c th be qu mo (li') mm)) ∧ LiA Lo li' := by
  obtain ⟨s', li', r1, r2⟩ := c80_loop (sc := sc) (c := c) (th := th) (be := be) (qu := qu) (mo := mo) (mm := mm) hX 8 0 s li none rfl (fun k hk => absurd hk (by omega))
  refine ⟨s', li', ?_, r2⟩
  rw [nI_0] at r1
  rw [← r1]
  simp only [e80, s80_0, s80_1, Option.bind_some, Option.bind_none, Option.toList_some, Option.toList_none, List.nil_append, List.cons_append, ↓reduceIte, reduceCtorEq, cl1_i, cl1_r, cl1_n, cl1_0, cl1_J, okS_0, okS_1, okS_2, okS_3, okS_4, bB_0, bB_and, z_0, z_1, z_10, bB_t, bB_f, Bool.true_eq_false, Bool.false_eq_true, gT0, gT1, gT2, gT3, gT4, gT5, gT6, gF0, gF1, gF2, gF3, gF4, gS0, gS1, gC0, gC1, iT, iF, iS, iC, sT6_0, sT6_1, sF2, sF3, sF4_0, sF4_1, sS1, sC1]
/-- begin and commit of a folder -/
theorem c16q (hX : IX f Lo) {q : Nat} (hq : q < 8) : ∃ l' s', RunM 16 [.ref (13 + 6 * q)] (hp sc (fB f) s c th be qu mo li mm) = some (some (.int (bB (bgq f q).1)), (hp sc (fB (bgq f q).2) (s') c th be qu mo (upL li q l') mm)) ∧ LiR l' [] none := by
  obtain ⟨l', r1, r2⟩ := c16 (sc := sc) (s := s) (c := c) (th := th) (be := be) (qu := qu) (mo := mo) (li := li) (mm := mm) hX.1 hq
  exact ⟨l', _, r1, r2⟩
theorem c17q (hX : IX f Lo) {q : Nat} (hq : q < 8) {st : Lst} (hs : Lo q = some st) (hL : LiR (li q) st.1 st.2) {os : List Opn} (hF : FitS st os) (hlen : (encS os).length ≤ 32) {j : Nat → Int32} : ∃ l' s', RunM 17 [.ref (13 + 6 * q), .ref 11] (hp sc (fB f) s (opf j (encS os)) th be qu mo li mm) = some (some (.int (bB (cmq f q os st).1)), (hp sc (fB (cmq f q os st).2) (s') (opf j (encS os)) th be qu mo (upL li q l') mm)) ∧ LiR l' (apS st os).1 (apS st os).2 := by
  obtain ⟨b, hb⟩ := hX.acS hq hs
  have hok : OkL st := by
    have := hX.okL hq
    rwa [lsO_of hs] at this
  have hokM := (OkL_apS os st hok hF).2.2.2
  have e : cmq f q os st = cmF f b (encS os) (apS st os) := by unfold cmq; rw [hb]; rfl
  rw [e]
  exact c17 hX.1 hq hL hF (by omega) (fun p hp => (hokM p hp).1) hb
end TREE
section TREEM
variable {sc : AC} {F : FlS} {s c : OpS} {th be qu : Nat → Int32} {mo : Int32} {li : Nat → LiS} {f : FB} {mt : Bool} {jl : Int32} {R : RgS} {O A : OpS} {Lo : LO} {j : Nat → Int32}
theorem c105q (hd : f.2.2.2.2 = false) (hX : IX f Lo) {q : Nat} (hq : q < 8) {st : Lst} (hs : Lo q = some st) {os : List Opn} (hF : FitS st os) (hlen : (encS os).length ≤ 32) : ∃ R' A', RunM 105 [.ref 61, .int (nI q)] (hp sc F s c th be qu mo li (hM (mS f mt jl R (opf j (encS os)) A))) = some (some (.int (bB (cmq f q os st).1)), (hp sc F s c th be qu mo li (hM (mS ((cmq f q os st).2) ((cmq f q os st).1 && mt) (jA (cmq f q os st).1 jl) (R') (opf j (encS os)) (A'))))) := by
  obtain ⟨b, hb⟩ := hX.acS hq hs
  have e : cmq f q os st = cmF f b (encS os) (apS st os) := by unfold cmq; rw [hb]; rfl
  have hl := hX.ld q hq
  rw [lsO_of hs] at hl
  rw [e]
  exact c105 hd hX.2.1 hX.1 hq hl hb hF hlen
theorem c106q (hd : f.2.2.2.2 = false) (hX : IX f Lo) {q : Nat} (hq : q < 8) : ∃ R' A', RunM 106 [.ref 61, .int (nI q)] (hp sc F s c th be qu mo li (hM (mS f mt jl R O A))) = some (some (.int (bB (bgq f q).1)), (hp sc F s c th be qu mo li (hM (mS ((bgq f q).2) ((bgq f q).1 && mt) (jA (bgq f q).1 jl) (R') O (A'))))) := c106 hd hX.2.1 hX.1 hq (hX.ld q hq)
theorem c101q (hX : IX f Lo) {q : Nat} (hq : q < 8) : ∃ R', RunM 101 [.ref 61, .int (nI q)] (hp sc F s c th be qu mo li (hM (mS f mt jl R O A))) = some (some (.int (oI (act f q))), (hp sc F s c th be qu mo li (hM (mS f mt jl (R') O A)))) ∧ MgR R' (lsO Lo q).1 (lsO Lo q).2 := by
  obtain ⟨R', r1, r2, -⟩ := c101 (sc := sc) (F := F) (s := s) (c := c) (th := th) (be := be) (qu := qu) (mo := mo) (li := li) (f := f) (mt := mt) (jl := jl) (R := R) (O := O) (A := A) hX.1 hq (hX.ld q hq)
  exact ⟨R', r1, r2⟩
theorem c109q (hX : IX f Lo) {d : Int32} : ∃ R', RunM 109 [.ref 61, .int d] (hp sc F s c th be qu mo li (hM (mS f mt jl R O A))) = some (some (.int (bB (tIn Lo d))), (hp sc F s c th be qu mo li (hM (mS f mt jl (R') O A)))) := c109 hX.1 hX.ld
theorem c108q (hX : IX f Lo) {a : Nat} (ha : a < 8) : ∃ R', RunM 108 [.ref 61, .int (nI a)] (hp sc F s c th be qu mo li (hM (mS f mt jl R O A))) = some (some (.int (nI (froS (lsO Lo) a))), (hp sc F s c th be qu mo li (hM (mS f mt jl (R') O A)))) := c108 hX.1 hX.ld ha
end TREEM
