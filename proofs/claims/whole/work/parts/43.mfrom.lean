/-! ===== The reference: which folders are reached ===== -/
theorem tst_bit : ∀ s, s < 256 → ∀ d, d < 8 → (nI s >>> (nI d &&& 31)) &&& 1 = bB (s.testBit d) := by decide +kernel
theorem one_shl : ∀ d, d < 8 → (1 : Int32) <<< (nI d &&& 31) = nI (2 ^ d) := by decide +kernel
theorem or_bit : ∀ s, s < 256 → ∀ d, d < 8 → nI s ||| nI (2 ^ d) = nI (s ||| 2 ^ d) := by decide +kernel
theorem or_lt : ∀ s, s < 256 → ∀ d, d < 8 → s ||| 2 ^ d < 256 := by decide +kernel
theorem bit_lt {s x : Nat} (hs : s < 256) (h : s.testBit x = true) : x < 8 := by
  rcases Nat.lt_or_ge x 8 with h8 | h8
  · exact h8
  · have : s.testBit x = false := Nat.testBit_lt_two_pow (Nat.lt_of_lt_of_le hs (show 2 ^ 8 ≤ 2 ^ x from Nat.pow_le_pow_right (by decide) h8))
    rw [this] at h
    cases h
def addK : Nat → List En → Nat
  | s, [] => s
  | s, e :: t => addK (if e.2.1 = 2 then s ||| 2 ^ e.2.2.1 else s) t
theorem addK_lt : ∀ (t : List En) (s : Nat), s < 256 → (∀ e ∈ t, OkE e) → addK s t < 256 := by
  intro t
  induction t with
  | nil => intro s h _; exact h
  | cons e t ih =>
    intro s h hok
    refine ih _ ?_ (fun x hx => hok x (List.mem_cons_of_mem _ hx))
    have he := (hok e List.mem_cons_self).2.2
    split
    · rename_i h2
      refine or_lt s h _ ?_
      rcases he with ⟨g, -⟩ | ⟨-, g, -⟩
      · omega
      · exact g
    · exact h
theorem addK_bit : ∀ (t : List En) (s x : Nat), (addK s t).testBit x = true ↔ s.testBit x = true ∨ x ∈ kids t := by
  intro t
  induction t with
  | nil => intro s x; simp [addK, kids]
  | cons e t ih =>
    intro s x
    unfold addK
    rw [ih, kids_mem, kids_mem]
    have : ((if e.2.1 = 2 then s ||| 2 ^ e.2.2.1 else s).testBit x = true) ↔ s.testBit x = true ∨ (e.2.1 = 2 ∧ e.2.2.1 = x) := by
      by_cases h : e.2.1 = 2
      · rw [if_pos h, Nat.testBit_or, Bool.or_eq_true, Nat.testBit_two_pow, decide_eq_true_eq]
        simp [h]
      · rw [if_neg h]
        simp [h]
    rw [this]
    constructor
    · rintro ((h | h) | ⟨y, hy, h⟩)
      · exact Or.inl h
      · exact Or.inr ⟨e, List.mem_cons_self, h⟩
      · exact Or.inr ⟨y, List.mem_cons_of_mem _ hy, h⟩
    · rintro (h | ⟨y, hy, h⟩)
      · exact Or.inl (Or.inl h)
      · rcases List.mem_cons.mp hy with rfl | hy
        · exact Or.inl (Or.inr h)
        · exact Or.inr ⟨y, hy, h⟩
def stD (Ls : Nat → Lst) (s d : Nat) : Nat := if s.testBit d = true then addK s (Ls d).1 else s
def rnd (Ls : Nat → Lst) : Nat → Nat → Nat → Nat
  | 0, _, s => s
  | n + 1, d, s => rnd Ls n (d + 1) (stD Ls s d)
def frm (Ls : Nat → Lst) : Nat → Nat → Nat
  | 0, s => s
  | n + 1, s => frm Ls n (rnd Ls 8 0 s)
def froS (Ls : Nat → Lst) (a : Nat) : Nat := frm Ls 8 (2 ^ a)
section FRO
variable {Ls : Nat → Lst}
theorem stD_lt (hok : ∀ x, x < 8 → ∀ e ∈ (Ls x).1, OkE e) {s d : Nat} (hs : s < 256) : stD Ls s d < 256 := by
  unfold stD
  split
  · rename_i h
    exact addK_lt _ _ hs (hok d (bit_lt hs h))
  · exact hs
theorem rnd_lt (hok : ∀ x, x < 8 → ∀ e ∈ (Ls x).1, OkE e) : ∀ (n d s : Nat), s < 256 → rnd Ls n d s < 256 := by
  intro n
  induction n with
  | zero => intro d s h; exact h
  | succ n ih => intro d s h; exact ih _ _ (stD_lt hok h)
theorem frm_lt (hok : ∀ x, x < 8 → ∀ e ∈ (Ls x).1, OkE e) : ∀ (n s : Nat), s < 256 → frm Ls n s < 256 := by
  intro n
  induction n with
  | zero => intro s h; exact h
  | succ n ih => intro s h; exact ih _ (rnd_lt hok _ _ _ h)
theorem stD_mono {s d x : Nat} (h : s.testBit x = true) : (stD Ls s d).testBit x = true := by
  unfold stD
  split
  · exact (addK_bit _ _ _).mpr (Or.inl h)
  · exact h
theorem rnd_mono : ∀ (n d s x : Nat), s.testBit x = true → (rnd Ls n d s).testBit x = true := by
  intro n
  induction n with
  | zero => intro d s x h; exact h
  | succ n ih => intro d s x h; exact ih _ _ _ (stD_mono h)
theorem rnd_kids : ∀ (n d s x : Nat), d ≤ x → x < d + n → s.testBit x = true → ∀ y ∈ kids (Ls x).1, (rnd Ls n d s).testBit y = true := by
  intro n
  induction n with
  | zero => intro d s x h1 h2; omega
  | succ n ih =>
    intro d s x h1 h2 hx y hy
    by_cases h : x = d
    · subst h
      refine rnd_mono n _ _ _ ?_
      unfold stD
      rw [if_pos hx]
      exact (addK_bit _ _ _).mpr (Or.inr hy)
    · exact ih (d + 1) _ x (by omega) (by omega) (stD_mono hx) y hy
theorem rnd_in {P : Nat → Prop} (hc : ∀ x, P x → ∀ y ∈ kids (Ls x).1, P y) : ∀ (n d s : Nat), (∀ x, s.testBit x = true → P x) → ∀ x, (rnd Ls n d s).testBit x = true → P x := by
  intro n
  induction n with
  | zero => intro d s h; exact h
  | succ n ih =>
    intro d s h
    refine ih _ _ ?_
    intro x hx
    unfold stD at hx
    split at hx
    · rename_i hd
      rcases (addK_bit _ _ _).mp hx with h1 | h1
      · exact h x h1
      · exact hc d (h d hd) x h1
    · exact h x hx
theorem frm_in {P : Nat → Prop} (hc : ∀ x, P x → ∀ y ∈ kids (Ls x).1, P y) : ∀ (n s : Nat), (∀ x, s.testBit x = true → P x) → ∀ x, (frm Ls n s).testBit x = true → P x := by
  intro n
  induction n with
  | zero => intro s h; exact h
  | succ n ih => intro s h; exact ih _ (rnd_in hc 8 0 s h)
theorem frm_mono : ∀ (n s x : Nat), s.testBit x = true → (frm Ls n s).testBit x = true := by
  intro n
  induction n with
  | zero => intro s x h; exact h
  | succ n ih => intro s x h; exact ih _ _ (rnd_mono 8 0 s x h)
def crd (s : Nat) : Nat := ((List.range 8).filter fun x => s.testBit x).length
theorem filt_le {p q : Nat → Bool} (h : ∀ x, p x = true → q x = true) : ∀ l : List Nat, (l.filter p).length ≤ (l.filter q).length := by
  intro l
  induction l with
  | nil => exact Nat.le_refl _
  | cons a l ih =>
    rw [List.filter_cons, List.filter_cons]
    by_cases hp : p a = true
    · rw [if_pos hp, if_pos (h a hp)]
      simp only [List.length_cons]
      omega
    · rw [if_neg hp]
      split
      · simp only [List.length_cons]
        omega
      · exact ih
theorem filt_lt {p q : Nat → Bool} (h : ∀ x, p x = true → q x = true) {y : Nat} (hy1 : q y = true) (hy2 : ¬ p y = true) : ∀ l : List Nat, y ∈ l → (l.filter p).length < (l.filter q).length := by
  intro l
  induction l with
  | nil => intro h; cases h
  | cons a l ih =>
    intro hm
    rw [List.filter_cons, List.filter_cons]
    rcases List.mem_cons.mp hm with rfl | hm
    · rw [if_neg hy2, if_pos hy1]
      have := filt_le h l
      simp only [List.length_cons]
      omega
    · have := ih hm
      by_cases hp : p a = true
      · rw [if_pos hp, if_pos (h a hp)]
        simp only [List.length_cons]
        omega
      · rw [if_neg hp]
        split
        · simp only [List.length_cons]
          omega
        · exact this
def Clo (Ls : Nat → Lst) (s : Nat) : Prop := ∀ x, s.testBit x = true → ∀ y ∈ kids (Ls x).1, s.testBit y = true
theorem frm_clo (hok : ∀ x, x < 8 → ∀ e ∈ (Ls x).1, OkE e) : ∀ (n s k : Nat), s < 256 → k + n = 8 → (Clo Ls s ∨ k < crd s) → Clo Ls (frm Ls n s) := by
  intro n
  induction n with
  | zero =>
    intro s k hs hk h
    rcases h with h | h
    · exact h
    · exfalso
      have : crd s ≤ 8 := by
        have := List.length_filter_le (fun x => s.testBit x) (List.range 8)
        rw [List.length_range] at this
        exact this
      omega
  | succ n ih =>
    intro s k hs hk h
    refine ih (rnd Ls 8 0 s) (k + 1) (rnd_lt hok _ _ _ hs) (by omega) ?_
    by_cases hC : Clo Ls s
    · left
      intro x hx y hy
      have hin := rnd_in (P := fun x => s.testBit x = true) hC 8 0 s (fun x h => h)
      exact rnd_mono 8 0 s y (hC x (hin x hx) y hy)
    · right
      have hlt : k < crd s := by
        rcases h with h | h
        · exact absurd h hC
        · exact h
      have : ∃ x, s.testBit x = true ∧ ∃ y, y ∈ kids (Ls x).1 ∧ ¬ s.testBit y = true := Classical.byContradiction fun hn => hC fun x hx y hy => Classical.byContradiction fun h9 => hn ⟨x, hx, y, hy, h9⟩
      obtain ⟨x, hx, y, hy, hns⟩ := this
      have hx8 := bit_lt hs hx
      have hy2 := rnd_kids 8 0 s x (by omega) (by omega) hx y hy
      have hy8 := bit_lt (rnd_lt hok 8 0 s hs) hy2
      have := filt_lt (p := fun x => s.testBit x) (q := fun x => (rnd Ls 8 0 s).testBit x) (fun x h => rnd_mono 8 0 s x h) hy2 hns (List.range 8) (List.mem_range.mpr hy8)
      have e : crd s < crd (rnd Ls 8 0 s) := this
      omega
theorem froS_spec (hok : ∀ x, x < 8 → ∀ e ∈ (Ls x).1, OkE e) {a : Nat} (ha : a < 8) : froS Ls a < 256 ∧ ∀ x, (froS Ls a).testBit x = true ↔ Rch Ls a x := by
  have h0 : 2 ^ a < 256 := by
    have : 2 ^ a < 2 ^ 8 := Nat.pow_lt_pow_right (by decide) ha
    exact this
  have hb : ∀ x, (2 ^ a).testBit x = true → x = a := fun x h => by
    rw [Nat.testBit_two_pow, decide_eq_true_eq] at h
    exact h.symm
  have hba : (2 ^ a).testBit a = true := by rw [Nat.testBit_two_pow]; simp
  have hcr : 0 < crd (2 ^ a) := by
    unfold crd
    have : a ∈ (List.range 8).filter fun x => (2 ^ a).testBit x := List.mem_filter.mpr ⟨List.mem_range.mpr ha, hba⟩
    exact List.length_pos_of_mem this
  have hC := frm_clo hok 8 (2 ^ a) 0 h0 rfl (Or.inr hcr)
  refine ⟨frm_lt hok 8 _ h0, fun x => ⟨?_, ?_⟩⟩
  · exact frm_in (P := Rch Ls a) (fun x hx y hy => hx.step hy) 8 (2 ^ a) (fun x h => by rw [hb x h]; exact Rch.rf) x
  · exact fun h => Rch.in (P := fun x => (froS Ls a).testBit x = true) (frm_mono 8 _ _ hba) hC h
end FRO
section MF
variable {sc : AC} {F : FlS} {s c : OpS} {th be qu : Nat → Int32} {mo : Int32} {li : Nat → LiS} {f : FB} {mt : Bool} {jl : Int32} {R : RgS} {O A : OpS} {es : List En} {mk : Option (Nat × Nat)} {Ls : Nat → Lst}
theorem c108_in {bl : Int32} (hL : MgR R es mk) (hbl : es = [] ∨ ¬ bl < 0) {a r d : Int32} : ∀ (t : List En) (k s0 : Nat), s0 < 256 → k ≤ es.length → es.drop k = t → Run 108 43 [some (.ref 61), some (.int a), some (.int (nI s0)), some (.int r), some (.int d), some (.int bl), some (.int (nI k))] [] (hp sc F s c th be qu mo li (hM (mS f mt jl R O A))) = Run 108 86 [some (.ref 61), some (.int a), some (.int (nI (addK s0 t))), some (.int r), some (.int d), some (.int bl), some (.int (nI es.length))] [] (hp sc F s c th be qu mo li (hM (mS f mt jl R O A))) := by
  have h4 := hL.1
  intro t
  induction t with
  | nil =>
    intro k s0 hs hk h
    have h5 : es.length ≤ k := List.drop_eq_nil_iff.mp h
    obtain rfl : k = es.length := by omega
    have h3 : ¬ nI es.length < nI es.length := nI_nlt (Nat.le_refl _) (by omega)
    simp only [s108_43, s108_45, s108_45n, s108_46, s108_49, Option.bind_some, Option.bind_none, Option.toList_some, Option.toList_none, List.nil_append, List.cons_append, ↓reduceIte, reduceCtorEq, cl1_i, cl1_r, cl1_n, cl1_0, cl1_J, okS_0, okS_1, okS_2, okS_3, okS_4, bB_0, bB_and, z_0, z_1, z_10, bB_t, bB_f, Bool.true_eq_false, Bool.false_eq_true, gT0, gT1, gT2, gT3, gT4, gT5, gT6, gF0, gF1, gF2, gF3, gF4, gS0, gS1, gC0, gC1, iT, iF, iS, iC, sT6_0, sT6_1, sF2, sF3, sF4_0, sF4_1, sS1, sC1, gM0, gM1, gM2, gM3, gM4, gM5, gM6, gM7, gM8, gM9, gM10, gM11, gM12, gM13, gM14, gM15, gM16, gM17, gM18, iM, sM5, sM6, sM11, sM12, sM13, sM14, sM16, sM18, sM2_0, sM2_1, sM3_0, sM3_1, sM4_0, sM4_1, mS_0, mS_1, mS_2, mS_3, mS_4, mS_5, mS_6, mS_7, mS_8, mS_9, mS_10, mS_11, mS_12, mS_13, mS_14, mS_15, mS_16, mS_17, mS_18, decide_true, decide_false, Bool.not_true, Bool.not_false, hL.2.1, h3, addK]
  | cons e t ih =>
    intro k s0 hs hk h
    obtain ⟨h5, h6, h7⟩ := dropC h
    obtain ⟨hE, hO⟩ := hL.2.2.1 k e h6
    have h3 : nI k < nI es.length := nI_lt h5 (by omega)
    have hbl2 : ¬ bl < 0 := by
      rcases hbl with h9 | h9
      · rw [h9] at h5; exact absurd h5 (by simp)
      · exact h9
    have hi4 : inB (nI k) 4 = true := inB_nI (by omega) (by decide)
    rw [s108_43]
    simp only [s108_45, s108_45n, s108_46, s108_49, s108_52, s108_54, s108_57, s108_57n, s108_58, s108_61, s108_63, s108_64, Option.bind_some, Option.bind_none, Option.toList_some, Option.toList_none, List.nil_append, List.cons_append, ↓reduceIte, reduceCtorEq, cl1_i, cl1_r, cl1_n, cl1_0, cl1_J, okS_0, okS_1, okS_2, okS_3, okS_4, bB_0, bB_and, z_0, z_1, z_10, bB_t, bB_f, Bool.true_eq_false, Bool.false_eq_true, gT0, gT1, gT2, gT3, gT4, gT5, gT6, gF0, gF1, gF2, gF3, gF4, gS0, gS1, gC0, gC1, iT, iF, iS, iC, sT6_0, sT6_1, sF2, sF3, sF4_0, sF4_1, sS1, sC1, gM0, gM1, gM2, gM3, gM4, gM5, gM6, gM7, gM8, gM9, gM10, gM11, gM12, gM13, gM14, gM15, gM16, gM17, gM18, iM, sM5, sM6, sM11, sM12, sM13, sM14, sM16, sM18, sM2_0, sM2_1, sM3_0, sM3_1, sM4_0, sM4_1, mS_0, mS_1, mS_2, mS_3, mS_4, mS_5, mS_6, mS_7, mS_8, mS_9, mS_10, mS_11, mS_12, mS_13, mS_14, mS_15, mS_16, mS_17, mS_18, decide_true, decide_false, Bool.not_true, Bool.not_false, hL.2.1, h3, hbl2, a65 hi4, nI_clamp (show k < 2 ^ 31 by omega), hE.2.1]
    unfold addK
    rcases hO.2.2 with ⟨g1, g2⟩ | ⟨g1, g2, g3⟩
    · have hn : ¬ nI e.2.1 = 2 := by rw [g1]; decide
      have hn2 : ¬ e.2.1 = 2 := by omega
      simp only [s108_65, s108_80, s108_83, Option.bind_some, Option.bind_none, Option.toList_some, Option.toList_none, List.nil_append, List.cons_append, ↓reduceIte, reduceCtorEq, cl1_i, cl1_r, cl1_n, cl1_0, cl1_J, okS_0, okS_1, okS_2, okS_3, okS_4, bB_0, bB_and, z_0, z_1, z_10, bB_t, bB_f, Bool.true_eq_false, Bool.false_eq_true, gT0, gT1, gT2, gT3, gT4, gT5, gT6, gF0, gF1, gF2, gF3, gF4, gS0, gS1, gC0, gC1, iT, iF, iS, iC, sT6_0, sT6_1, sF2, sF3, sF4_0, sF4_1, sS1, sC1, hn, hn2, nI_1]
      exact ih (k + 1) s0 hs h5 h7
    · have hn : nI e.2.1 = 2 := by rw [g1]; decide
      simp only [s108_65, s108_68, s108_69, s108_70, s108_70n, s108_71, s108_74, s108_76, s108_77, s108_78, s108_79, s108_80, s108_83, Option.bind_some, Option.bind_none, Option.toList_some, Option.toList_none, List.nil_append, List.cons_append, ↓reduceIte, reduceCtorEq, cl1_i, cl1_r, cl1_n, cl1_0, cl1_J, okS_0, okS_1, okS_2, okS_3, okS_4, bB_0, bB_and, z_0, z_1, z_10, bB_t, bB_f, Bool.true_eq_false, Bool.false_eq_true, gT0, gT1, gT2, gT3, gT4, gT5, gT6, gF0, gF1, gF2, gF3, gF4, gS0, gS1, gC0, gC1, iT, iF, iS, iC, sT6_0, sT6_1, sF2, sF3, sF4_0, sF4_1, sS1, sC1, gM0, gM1, gM2, gM3, gM4, gM5, gM6, gM7, gM8, gM9, gM10, gM11, gM12, gM13, gM14, gM15, gM16, gM17, gM18, iM, sM5, sM6, sM11, sM12, sM13, sM14, sM16, sM18, sM2_0, sM2_1, sM3_0, sM3_1, sM4_0, sM4_1, mS_0, mS_1, mS_2, mS_3, mS_4, mS_5, mS_6, mS_7, mS_8, mS_9, mS_10, mS_11, mS_12, mS_13, mS_14, mS_15, mS_16, mS_17, mS_18, decide_true, decide_false, Bool.not_true, Bool.not_false, hn, g1, a66 hi4, nI_clamp (show k < 2 ^ 31 by omega), hE.2.2.1, one_shl _ g2, or_bit _ hs _ g2, nI_1]
      exact ih (k + 1) _ (or_lt _ hs _ g2) h5 h7
theorem c108_d (hB : BOk f) (hLd : ∀ x, x < 8 → LdR f x (Ls x)) {a r : Int32} : ∀ (n d s0 : Nat) (R : RgS) (z5 z6 : Option Value), s0 < 256 → d + n = 8 → ∃ R' z5' z6', Run 108 15 [some (.ref 61), some (.int a), some (.int (nI s0)), some (.int r), some (.int (nI d)), z5, z6] [] (hp sc F s c th be qu mo li (hM (mS f mt jl R O A))) = Run 108 92 [some (.ref 61), some (.int a), some (.int (nI (rnd Ls n d s0))), some (.int r), some (.int 8), z5', z6'] [] (hp sc F s c th be qu mo li (hM (mS f mt jl (R') O A))) := by
  intro n
  induction n with
  | zero =>
    intro d s0 R z5 z6 hs hd
    obtain rfl : d = 8 := by omega
    have h3 : ¬ (8 : Int32) < 8 := by decide
    have e8 : nI 8 = 8 := rfl
    refine ⟨R, z5, z6, ?_⟩
    simp only [s108_15, s108_17, s108_19, Option.bind_some, Option.bind_none, Option.toList_some, Option.toList_none, List.nil_append, List.cons_append, ↓reduceIte, reduceCtorEq, cl1_i, cl1_r, cl1_n, cl1_0, cl1_J, okS_0, okS_1, okS_2, okS_3, okS_4, bB_0, bB_and, z_0, z_1, z_10, bB_t, bB_f, Bool.true_eq_false, Bool.false_eq_true, gT0, gT1, gT2, gT3, gT4, gT5, gT6, gF0, gF1, gF2, gF3, gF4, gS0, gS1, gC0, gC1, iT, iF, iS, iC, sT6_0, sT6_1, sF2, sF3, sF4_0, sF4_1, sS1, sC1, h3, rnd, e8]
  | succ n ih =>
    intro d s0 R z5 z6 hs hd
    have hd8 : d < 8 := by omega
    have h3 : nI d < 8 := nI_lit (k := 8) hd8 (by decide)
    have hlt : stD Ls s0 d < 256 := stD_lt (fun x hx e he => ((hLd x hx).ok.2.1 e he).1) hs
    cases hb : s0.testBit d with
    | false =>
      obtain ⟨R', y5, y6, r1⟩ := ih (d + 1) (stD Ls s0 d) R z5 z6 hlt (by omega)
      refine ⟨R', y5, y6, ?_⟩
      have e1 : stD Ls s0 d = s0 := by unfold stD; rw [hb]; rfl
      rw [e1] at r1
      unfold rnd
      rw [e1, ← r1]
      have h0 : ¬ (0 : Int32) = 1 := by decide
      rw [s108_15]
      simp only [s108_17, s108_19, s108_22, s108_23, s108_25, s108_26, s108_27, s108_28, s108_29, s108_86, s108_89, Option.bind_some, Option.bind_none, Option.toList_some, Option.toList_none, List.nil_append, List.cons_append, ↓reduceIte, reduceCtorEq, cl1_i, cl1_r, cl1_n, cl1_0, cl1_J, okS_0, okS_1, okS_2, okS_3, okS_4, bB_0, bB_and, z_0, z_1, z_10, bB_t, bB_f, Bool.true_eq_false, Bool.false_eq_true, gT0, gT1, gT2, gT3, gT4, gT5, gT6, gF0, gF1, gF2, gF3, gF4, gS0, gS1, gC0, gC1, iT, iF, iS, iC, sT6_0, sT6_1, sF2, sF3, sF4_0, sF4_1, sS1, sC1, h3, tst_bit _ hs _ hd8, hb, h0, nI_1]
    | true =>
      obtain ⟨R1, k1, k2, k3⟩ := c101 (sc := sc) (F := F) (s := s) (c := c) (th := th) (be := be) (qu := qu) (mo := mo) (li := li) (f := f) (mt := mt) (jl := jl) (R := R) (O := O) (A := A) hB hd8 (hLd d hd8)
      have hbl : (Ls d).1 = [] ∨ ¬ oI (act f d) < 0 := by
        cases ha : act f d with
        | none =>
          left
          rcases hLd d hd8 with ⟨-, e⟩ | ⟨b, rs, e, -⟩
          · rw [e]; rfl
          · rw [ha] at e; cases e
        | some b => exact Or.inr (nI_pos (by have := act_lt hd8 ha; omega))
      obtain ⟨R', y5, y6, r1⟩ := ih (d + 1) (stD Ls s0 d) R1 (some (.int (oI (act f d)))) (some (.int (nI (Ls d).1.length))) hlt (by omega)
      refine ⟨R', y5, y6, ?_⟩
      have e1 : stD Ls s0 d = addK s0 (Ls d).1 := by unfold stD; rw [hb]; rfl
      rw [e1] at r1
      unfold rnd
      rw [e1, ← r1]
      have k := c108_in (sc := sc) (F := F) (s := s) (c := c) (th := th) (be := be) (qu := qu) (mo := mo) (li := li) (f := f) (mt := mt) (jl := jl) (O := O) (A := A) k2 hbl (a := a) (r := r) (d := nI d) (Ls d).1 0 s0 hs (Nat.zero_le _) rfl
      rw [nI_0] at k
      rw [s108_15]
      simp only [s108_17, s108_19, s108_22, s108_23, s108_25, s108_26, s108_27, s108_28, s108_29, s108_32, s108_32n, s108_33, Option.bind_some, Option.bind_none, Option.toList_some, Option.toList_none, List.nil_append, List.cons_append, ↓reduceIte, reduceCtorEq, cl1_i, cl1_r, cl1_n, cl1_0, cl1_J, okS_0, okS_1, okS_2, okS_3, okS_4, bB_0, bB_and, z_0, z_1, z_10, bB_t, bB_f, Bool.true_eq_false, Bool.false_eq_true, gT0, gT1, gT2, gT3, gT4, gT5, gT6, gF0, gF1, gF2, gF3, gF4, gS0, gS1, gC0, gC1, iT, iF, iS, iC, sT6_0, sT6_1, sF2, sF3, sF4_0, sF4_1, sS1, sC1, gM0, gM1, gM2, gM3, gM4, gM5, gM6, gM7, gM8, gM9, gM10, gM11, gM12, gM13, gM14, gM15, gM16, gM17, gM18, iM, sM5, sM6, sM11, sM12, sM13, sM14, sM16, sM18, sM2_0, sM2_1, sM3_0, sM3_1, sM4_0, sM4_1, mS_0, mS_1, mS_2, mS_3, mS_4, mS_5, mS_6, mS_7, mS_8, mS_9, mS_10, mS_11, mS_12, mS_13, mS_14, mS_15, mS_16, mS_17, mS_18, decide_true, decide_false, Bool.not_true, Bool.not_false, h3, tst_bit _ hs _ hd8, hb]
      simp only [s108_35, Option.bind_some, Option.bind_none, Option.toList_some, Option.toList_none, List.nil_append, List.cons_append, ↓reduceIte, reduceCtorEq, cl1_i, cl1_r, cl1_n, cl1_0, cl1_J, okS_0, okS_1, okS_2, okS_3, okS_4, bB_0, bB_and, z_0, z_1, z_10, bB_t, bB_f, Bool.true_eq_false, Bool.false_eq_true, gT0, gT1, gT2, gT3, gT4, gT5, gT6, gF0, gF1, gF2, gF3, gF4, gS0, gS1, gC0, gC1, iT, iF, iS, iC, sT6_0, sT6_1, sF2, sF3, sF4_0, sF4_1, sS1, sC1, gM0, gM1, gM2, gM3, gM4, gM5, gM6, gM7, gM8, gM9, gM10, gM11, gM12, gM13, gM14, gM15, gM16, gM17, gM18, iM, sM5, sM6, sM11, sM12, sM13, sM14, sM16, sM18, sM2_0, sM2_1, sM3_0, sM3_1, sM4_0, sM4_1, mS_0, mS_1, mS_2, mS_3, mS_4, mS_5, mS_6, mS_7, mS_8, mS_9, mS_10, mS_11, mS_12, mS_13, mS_14, mS_15, mS_16, mS_17, mS_18, decide_true, decide_false, Bool.not_true, Bool.not_false, k1]
      simp only [s108_38, s108_40, s108_41, Option.bind_some, Option.bind_none, Option.toList_some, Option.toList_none, List.nil_append, List.cons_append, ↓reduceIte, reduceCtorEq, cl1_i, cl1_r, cl1_n, cl1_0, cl1_J, okS_0, okS_1, okS_2, okS_3, okS_4, bB_0, bB_and, z_0, z_1, z_10, bB_t, bB_f, Bool.true_eq_false, Bool.false_eq_true, gT0, gT1, gT2, gT3, gT4, gT5, gT6, gF0, gF1, gF2, gF3, gF4, gS0, gS1, gC0, gC1, iT, iF, iS, iC, sT6_0, sT6_1, sF2, sF3, sF4_0, sF4_1, sS1, sC1]
      rw [k]
      simp only [s108_86, s108_89, Option.bind_some, Option.bind_none, Option.toList_some, Option.toList_none, List.nil_append, List.cons_append, ↓reduceIte, reduceCtorEq, cl1_i, cl1_r, cl1_n, cl1_0, cl1_J, okS_0, okS_1, okS_2, okS_3, okS_4, bB_0, bB_and, z_0, z_1, z_10, bB_t, bB_f, Bool.true_eq_false, Bool.false_eq_true, gT0, gT1, gT2, gT3, gT4, gT5, gT6, gF0, gF1, gF2, gF3, gF4, gS0, gS1, gC0, gC1, iT, iF, iS, iC, sT6_0, sT6_1, sF2, sF3, sF4_0, sF4_1, sS1, sC1, nI_1]
theorem c108_r (hB : BOk f) (hLd : ∀ x, x < 8 → LdR f x (Ls x)) {a : Int32} : ∀ (n r s0 : Nat) (R : RgS) (z4 z5 z6 : Option Value), s0 < 256 → r + n = 8 → ∃ R', Run 108 6 [some (.ref 61), some (.int a), some (.int (nI s0)), some (.int (nI r)), z4, z5, z6] [] (hp sc F s c th be qu mo li (hM (mS f mt jl R O A))) = some (some (.int (nI (frm Ls n s0))), (hp sc F s c th be qu mo li (hM (mS f mt jl (R') O A)))) := by
  intro n
  induction n with
  | zero =>
    intro r s0 R z4 z5 z6 hs hr
    obtain rfl : r = 8 := by omega
    have h3 : ¬ nI 8 < 8 := by decide
    refine ⟨R, ?_⟩
    simp only [s108_6, s108_7, s108_9, s108_98, s108_99, Option.bind_some, Option.bind_none, Option.toList_some, Option.toList_none, List.nil_append, List.cons_append, ↓reduceIte, reduceCtorEq, cl1_i, cl1_r, cl1_n, cl1_0, cl1_J, okS_0, okS_1, okS_2, okS_3, okS_4, bB_0, bB_and, z_0, z_1, z_10, bB_t, bB_f, Bool.true_eq_false, Bool.false_eq_true, gT0, gT1, gT2, gT3, gT4, gT5, gT6, gF0, gF1, gF2, gF3, gF4, gS0, gS1, gC0, gC1, iT, iF, iS, iC, sT6_0, sT6_1, sF2, sF3, sF4_0, sF4_1, sS1, sC1, h3, frm]
  | succ n ih =>
    intro r s0 R z4 z5 z6 hs hr
    have h3 : nI r < 8 := nI_lit (k := 8) (by omega) (by decide)
    obtain ⟨R1, y5, y6, r1⟩ := c108_d (sc := sc) (F := F) (s := s) (c := c) (th := th) (be := be) (qu := qu) (mo := mo) (li := li) (f := f) (mt := mt) (jl := jl) (O := O) (A := A) hB hLd (a := a) (r := nI r) 8 0 s0 R z5 z6 hs rfl
    obtain ⟨R2, r2⟩ := ih (r + 1) (rnd Ls 8 0 s0) R1 (some (.int 8)) y5 y6 (rnd_lt (fun x hx e he => ((hLd x hx).ok.2.1 e he).1) _ _ _ hs) (by omega)
    refine ⟨R2, ?_⟩
    unfold frm
    rw [← r2, s108_6]
    simp only [s108_7, s108_9, s108_12, s108_13, Option.bind_some, Option.bind_none, Option.toList_some, Option.toList_none, List.nil_append, List.cons_append, ↓reduceIte, reduceCtorEq, cl1_i, cl1_r, cl1_n, cl1_0, cl1_J, okS_0, okS_1, okS_2, okS_3, okS_4, bB_0, bB_and, z_0, z_1, z_10, bB_t, bB_f, Bool.true_eq_false, Bool.false_eq_true, gT0, gT1, gT2, gT3, gT4, gT5, gT6, gF0, gF1, gF2, gF3, gF4, gS0, gS1, gC0, gC1, iT, iF, iS, iC, sT6_0, sT6_1, sF2, sF3, sF4_0, sF4_1, sS1, sC1, h3]
    rw [nI_0] at r1
    rw [r1]
    simp only [s108_92, s108_95, Option.bind_some, Option.bind_none, Option.toList_some, Option.toList_none, List.nil_append, List.cons_append, ↓reduceIte, reduceCtorEq, cl1_i, cl1_r, cl1_n, cl1_0, cl1_J, okS_0, okS_1, okS_2, okS_3, okS_4, bB_0, bB_and, z_0, z_1, z_10, bB_t, bB_f, Bool.true_eq_false, Bool.false_eq_true, gT0, gT1, gT2, gT3, gT4, gT5, gT6, gF0, gF1, gF2, gF3, gF4, gS0, gS1, gC0, gC1, iT, iF, iS, iC, sT6_0, sT6_1, sF2, sF3, sF4_0, sF4_1, sS1, sC1, nI_1]
theorem c108 (hB : BOk f) (hLd : ∀ x, x < 8 → LdR f x (Ls x)) {a : Nat} (ha : a < 8) : ∃ R', RunM 108 [.ref 61, .int (nI a)] (hp sc F s c th be qu mo li (hM (mS f mt jl R O A))) = some (some (.int (nI (froS Ls a))), (hp sc F s c th be qu mo li (hM (mS f mt jl (R') O A)))) := by
  obtain ⟨R', r1⟩ := c108_r (sc := sc) (F := F) (s := s) (c := c) (th := th) (be := be) (qu := qu) (mo := mo) (li := li) (f := f) (mt := mt) (jl := jl) (O := O) (A := A) hB hLd (a := nI a) 8 0 (2 ^ a) R none none none (by have : 2 ^ a < 2 ^ 8 := Nat.pow_lt_pow_right (by decide) ha; exact this) rfl
  refine ⟨R', ?_⟩
  rw [nI_0] at r1
  unfold froS
  rw [← r1]
  simp only [e108, s108_0, s108_1, s108_2, s108_3, s108_4, s108_5, Option.bind_some, Option.bind_none, Option.toList_some, Option.toList_none, List.nil_append, List.cons_append, ↓reduceIte, reduceCtorEq, cl1_i, cl1_r, cl1_n, cl1_0, cl1_J, okS_0, okS_1, okS_2, okS_3, okS_4, bB_0, bB_and, z_0, z_1, z_10, bB_t, bB_f, Bool.true_eq_false, Bool.false_eq_true, gT0, gT1, gT2, gT3, gT4, gT5, gT6, gF0, gF1, gF2, gF3, gF4, gS0, gS1, gC0, gC1, iT, iF, iS, iC, sT6_0, sT6_1, sF2, sF3, sF4_0, sF4_1, sS1, sC1, one_shl a ha]
/-- there(d) -/
theorem c109 (hB : BOk f) (hLd : ∀ x, x < 8 → LdR f x (Ls x)) {d : Int32} : ∃ R', RunM 109 [.ref 61, .int d] (hp sc F s c th be qu mo li (hM (mS f mt jl R O A))) = some (some (.int (bB (inB d 8 && (froS Ls 0).testBit d.toNatClampNeg))), (hp sc F s c th be qu mo li (hM (mS f mt jl (R') O A)))) := by
  by_cases h1 : d < 0
  · refine ⟨R, ?_⟩
    simp only [e109, s109_0, s109_1, s109_27, s109_28, Option.bind_some, Option.bind_none, Option.toList_some, Option.toList_none, List.nil_append, List.cons_append, ↓reduceIte, reduceCtorEq, cl1_i, cl1_r, cl1_n, cl1_0, cl1_J, okS_0, okS_1, okS_2, okS_3, okS_4, bB_0, bB_and, z_0, z_1, z_10, bB_t, bB_f, Bool.true_eq_false, Bool.false_eq_true, gT0, gT1, gT2, gT3, gT4, gT5, gT6, gF0, gF1, gF2, gF3, gF4, gS0, gS1, gC0, gC1, iT, iF, iS, iC, sT6_0, sT6_1, sF2, sF3, sF4_0, sF4_1, sS1, sC1, h1, inB_f1 (n := 8) h1, Bool.false_and]
  · obtain ⟨k, hk, rfl⟩ := nI_of h1
    by_cases h2 : k < 8
    · have h3 : nI k < 8 := nI_lit (k := 8) h2 (by decide)
      obtain ⟨R', r1⟩ := c108 (sc := sc) (F := F) (s := s) (c := c) (th := th) (be := be) (qu := qu) (mo := mo) (li := li) (f := f) (mt := mt) (jl := jl) (R := R) (O := O) (A := A) hB hLd (a := 0) (by decide)
      rw [nI_0] at r1
      have hs := (froS_spec (Ls := Ls) (fun x hx e he => ((hLd x hx).ok.2.1 e he).1) (a := 0) (by decide)).1
      refine ⟨R', ?_⟩
      simp only [e109, s109_0, s109_1, s109_4, s109_5, s109_7, s109_10, s109_10n, s109_11, Option.bind_some, Option.bind_none, Option.toList_some, Option.toList_none, List.nil_append, List.cons_append, ↓reduceIte, reduceCtorEq, cl1_i, cl1_r, cl1_n, cl1_0, cl1_J, okS_0, okS_1, okS_2, okS_3, okS_4, bB_0, bB_and, z_0, z_1, z_10, bB_t, bB_f, Bool.true_eq_false, Bool.false_eq_true, gT0, gT1, gT2, gT3, gT4, gT5, gT6, gF0, gF1, gF2, gF3, gF4, gS0, gS1, gC0, gC1, iT, iF, iS, iC, sT6_0, sT6_1, sF2, sF3, sF4_0, sF4_1, sS1, sC1, gM0, gM1, gM2, gM3, gM4, gM5, gM6, gM7, gM8, gM9, gM10, gM11, gM12, gM13, gM14, gM15, gM16, gM17, gM18, iM, sM5, sM6, sM11, sM12, sM13, sM14, sM16, sM18, sM2_0, sM2_1, sM3_0, sM3_1, sM4_0, sM4_1, mS_0, mS_1, mS_2, mS_3, mS_4, mS_5, mS_6, mS_7, mS_8, mS_9, mS_10, mS_11, mS_12, mS_13, mS_14, mS_15, mS_16, mS_17, mS_18, decide_true, decide_false, Bool.not_true, Bool.not_false, h1, h3]
      simp only [s109_12, Option.bind_some, Option.bind_none, Option.toList_some, Option.toList_none, List.nil_append, List.cons_append, ↓reduceIte, reduceCtorEq, cl1_i, cl1_r, cl1_n, cl1_0, cl1_J, okS_0, okS_1, okS_2, okS_3, okS_4, bB_0, bB_and, z_0, z_1, z_10, bB_t, bB_f, Bool.true_eq_false, Bool.false_eq_true, gT0, gT1, gT2, gT3, gT4, gT5, gT6, gF0, gF1, gF2, gF3, gF4, gS0, gS1, gC0, gC1, iT, iF, iS, iC, sT6_0, sT6_1, sF2, sF3, sF4_0, sF4_1, sS1, sC1, gM0, gM1, gM2, gM3, gM4, gM5, gM6, gM7, gM8, gM9, gM10, gM11, gM12, gM13, gM14, gM15, gM16, gM17, gM18, iM, sM5, sM6, sM11, sM12, sM13, sM14, sM16, sM18, sM2_0, sM2_1, sM3_0, sM3_1, sM4_0, sM4_1, mS_0, mS_1, mS_2, mS_3, mS_4, mS_5, mS_6, mS_7, mS_8, mS_9, mS_10, mS_11, mS_12, mS_13, mS_14, mS_15, mS_16, mS_17, mS_18, decide_true, decide_false, Bool.not_true, Bool.not_false, r1]
      simp only [s109_15, s109_16, s109_17, s109_18, s109_19, Option.bind_some, Option.bind_none, Option.toList_some, Option.toList_none, List.nil_append, List.cons_append, ↓reduceIte, reduceCtorEq, cl1_i, cl1_r, cl1_n, cl1_0, cl1_J, okS_0, okS_1, okS_2, okS_3, okS_4, bB_0, bB_and, z_0, z_1, z_10, bB_t, bB_f, Bool.true_eq_false, Bool.false_eq_true, gT0, gT1, gT2, gT3, gT4, gT5, gT6, gF0, gF1, gF2, gF3, gF4, gS0, gS1, gC0, gC1, iT, iF, iS, iC, sT6_0, sT6_1, sF2, sF3, sF4_0, sF4_1, sS1, sC1, tst_bit _ hs _ h2, inB_nI h2 (show 8 < 2 ^ 31 by decide), nI_clamp hk, Bool.true_and]
      cases hb : (froS Ls 0).testBit k with
      | true => simp only [s109_20, s109_23, s109_24, s109_27, s109_28, Option.bind_some, Option.bind_none, Option.toList_some, Option.toList_none, List.nil_append, List.cons_append, ↓reduceIte, reduceCtorEq, cl1_i, cl1_r, cl1_n, cl1_0, cl1_J, okS_0, okS_1, okS_2, okS_3, okS_4, bB_0, bB_and, z_0, z_1, z_10, bB_t, bB_f, Bool.true_eq_false, Bool.false_eq_true, gT0, gT1, gT2, gT3, gT4, gT5, gT6, gF0, gF1, gF2, gF3, gF4, gS0, gS1, gC0, gC1, iT, iF, iS, iC, sT6_0, sT6_1, sF2, sF3, sF4_0, sF4_1, sS1, sC1]
      | false =>
        have h0 : ¬ (0 : Int32) = 1 := by decide
        simp only [s109_20, s109_27, s109_28, Option.bind_some, Option.bind_none, Option.toList_some, Option.toList_none, List.nil_append, List.cons_append, ↓reduceIte, reduceCtorEq, cl1_i, cl1_r, cl1_n, cl1_0, cl1_J, okS_0, okS_1, okS_2, okS_3, okS_4, bB_0, bB_and, z_0, z_1, z_10, bB_t, bB_f, Bool.true_eq_false, Bool.false_eq_true, gT0, gT1, gT2, gT3, gT4, gT5, gT6, gF0, gF1, gF2, gF3, gF4, gS0, gS1, gC0, gC1, iT, iF, iS, iC, sT6_0, sT6_1, sF2, sF3, sF4_0, sF4_1, sS1, sC1, h0]
    · have h3 : ¬ nI k < 8 := nI_nlt (b := 8) (by omega) hk
      refine ⟨R, ?_⟩
      simp only [e109, s109_0, s109_1, s109_4, s109_5, s109_7, s109_27, s109_28, Option.bind_some, Option.bind_none, Option.toList_some, Option.toList_none, List.nil_append, List.cons_append, ↓reduceIte, reduceCtorEq, cl1_i, cl1_r, cl1_n, cl1_0, cl1_J, okS_0, okS_1, okS_2, okS_3, okS_4, bB_0, bB_and, z_0, z_1, z_10, bB_t, bB_f, Bool.true_eq_false, Bool.false_eq_true, gT0, gT1, gT2, gT3, gT4, gT5, gT6, gF0, gF1, gF2, gF3, gF4, gS0, gS1, gC0, gC1, iT, iF, iS, iC, sT6_0, sT6_1, sF2, sF3, sF4_0, sF4_1, sS1, sC1, h1, h3, inB_no (show 8 ≤ k by omega) hk, Bool.false_and]
theorem c110 : RunM 110 [.ref 61] (hp sc F s c th be qu mo li (hM (mS f mt jl R O A))) = some (some (.int (if f.2.2.2.2 = true then -9 else if mt = true then 0 else -8)), (hp sc F s c th be qu mo li (hM (mS f mt jl R O A)))) := by
  obtain ⟨cl, er, dn, lf, dk⟩ := f
  cases dk <;> cases mt <;> simp only [e110, s110_0, s110_0n, s110_1, s110_4, s110_7, s110_9, s110_12, s110_12n, s110_13, s110_16, s110_19, s110_20, s110_23, s110_25, Option.bind_some, Option.bind_none, Option.toList_some, Option.toList_none, List.nil_append, List.cons_append, ↓reduceIte, reduceCtorEq, cl1_i, cl1_r, cl1_n, cl1_0, cl1_J, okS_0, okS_1, okS_2, okS_3, okS_4, bB_0, bB_and, z_0, z_1, z_10, bB_t, bB_f, Bool.true_eq_false, Bool.false_eq_true, gT0, gT1, gT2, gT3, gT4, gT5, gT6, gF0, gF1, gF2, gF3, gF4, gS0, gS1, gC0, gC1, iT, iF, iS, iC, sT6_0, sT6_1, sF2, sF3, sF4_0, sF4_1, sS1, sC1, gM0, gM1, gM2, gM3, gM4, gM5, gM6, gM7, gM8, gM9, gM10, gM11, gM12, gM13, gM14, gM15, gM16, gM17, gM18, iM, sM5, sM6, sM11, sM12, sM13, sM14, sM16, sM18, sM2_0, sM2_1, sM3_0, sM3_1, sM4_0, sM4_1, mS_0, mS_1, mS_2, mS_3, mS_4, mS_5, mS_6, mS_7, mS_8, mS_9, mS_10, mS_11, mS_12, mS_13, mS_14, mS_15, mS_16, mS_17, mS_18, decide_true, decide_false, Bool.not_true, Bool.not_false] <;> rfl
theorem c111 {g : Bool} {x : Int32} {h : AH} {z : Nat} : RunM 111 [.ref z, .int (bB g), .int x] h = some (some (.int (if g = true then x else -9)), h) := by
  cases g <;> simp only [e111, s111_0, s111_1, s111_4, s111_5, s111_8, s111_10, Option.bind_some, Option.bind_none, Option.toList_some, Option.toList_none, List.nil_append, List.cons_append, ↓reduceIte, reduceCtorEq, cl1_i, cl1_r, cl1_n, cl1_0, cl1_J, okS_0, okS_1, okS_2, okS_3, okS_4, bB_0, bB_and, z_0, z_1, z_10, bB_t, bB_f, Bool.true_eq_false, Bool.false_eq_true, gT0, gT1, gT2, gT3, gT4, gT5, gT6, gF0, gF1, gF2, gF3, gF4, gS0, gS1, gC0, gC1, iT, iF, iS, iC, sT6_0, sT6_1, sF2, sF3, sF4_0, sF4_1, sS1, sC1]
end MF
