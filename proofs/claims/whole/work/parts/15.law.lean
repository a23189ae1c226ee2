/-! THE CLAIM OUT OF ONE WALK OF THE LAW'S BODY. Your part is whole_start (and what it stands on); all else here is the same for every law, but numbers. -/
def R_law : String := "FlashTreeLaw"
def lw_P (b : Addr) (xs : List Int32) (args : Array Value) (s : State) : Prop := args = #[.ref b] ∧ s.IntsAt b xs ∧ xs.length ≤ 3072 ∧ (Jvm.Cond.and given_1 narrow_1).before args s = true
def lw_Q (_ : Array Value) (s : State) (o : Outcome) (t : State) : Prop := o = .returned (some (.int 1)) ∧ Framed s o t [] 600000 7302250
def lw_Z (below : List Frame) (a : Array Value) (s : State) : State → Prop := fun t => ∃ o, t.status = .running ∧ Ended t below o ∧ lw_Q a s o t
/-- the law's own end, with 1 on the stack, nothing written that was there before, its room as the claim has it -/
theorem lw_ret {p : Program} {l : Launch} {e : Env} {s : State} {m : MethodId} {below : List Frame} {meth : Method} {c : Code} {b : Nat} (hx : p.tables.exec = Jvm.exec) (hb : c.code = code) (hr : meth.sig.returnType = ret) (hlocks : meth.locks = false) {pc : Nat} {H : Heap} {ls : Array Slot} (hdg : decode code pc = .ok (.ireturn, 1)) : W p l e room_1 s m #[Value.ref b] below meth c H [] 600000 7302250 (lw_Z below #[Value.ref b] s) (F0 m pc ls [.int 1]) := by
  intro T hT X
  obtain ⟨fs, hret, hrun, hended, hW, hframe⟩ := X.leave (v := some (.int 1)) (hlocks := hlocks) (fun h => by rw [hr] at h; cases h)
  have hmeth' : T.vm.method? m = some meth := X.method'
  refine ⟨T.setFrames fs, ?_, .returned (some (.int 1)), hrun, hended, rfl, ⟨_, rfl⟩, hW, hframe⟩
  jvm_step X.here [X.here.top, hx, hb, hdg, hmeth', hr, ret, narrow_b1]
  (try refine ⟨rfl, ?_⟩); (try refine ⟨rfl, ?_⟩)
  first | (intro acts; rw [hret _ acts rfl rfl rfl]) | rw [hret _ _ rfl rfl rfl]
  exact Steps.refl _
/-- what holds at the law's entry: the machine, the code, the tables' words (any of lw_tbl by 'hts w (by decide +kernel)'), the script of L ints xs at the cell b, what the Statement gives of the start (any of its parts by flat_of_before) -/
def lw_At (p : Program) (s : State) (m : MethodId) (meth : Method) (c : Code) (b L : Nat) (xs : Nat → Int32) : Prop :=
  p.tables.exec = Jvm.exec ∧ c.code = code ∧ meth.sig.returnType = ret ∧ c.maxLocals = 4 ∧ s.vm.findClass R_law = some m.cls ∧ (∀ w ∈ lw_tbl, w.before #[Value.ref b] s = true) ∧ va_X b L xs s s.heap ∧ b < s.heap.size ∧ meth.locks = false ∧ (Jvm.Cond.and given_1 narrow_1).before #[Value.ref b] s = true
/-- the script's cell -/
def scr0 (L : Nat) (xs : Nat → Int32) : AC := .inl (.int, L, fun j => .int (xs j))
set_option maxHeartbeats 4000000 in
/-- the law's walk, out of a run of the small machine -/
theorem whole_of_run {p : Program} {e : Env} {s : State} {m : MethodId} {below : List Frame} {meth : Method} {c : Code} (l : Launch) {b L : Nat} {xs : Nat → Int32} {h' : AH} (hrun : RunM 130 [.ref 0] [scr0 L xs] = some (some (.int 1), h')) (hz1 : h'.length ≤ 600001) (hz2 : sl h' ≤ 7302250 + L) (C0 : lw_At p s m meth c b L xs) : W p l e room_1 s m #[Value.ref b] below meth c s.heap [] 0 0 (lw_Z below #[Value.ref b] s) (entryFrame m ([Value.ref b] : List Value).toArray 4) := by
  obtain ⟨hx, hb, hr, hml, hown, hts, hX, hbl, hlocks, hgv⟩ := C0
  obtain ⟨n, hex⟩ := Run_iff.mp hrun
  have hgw : ∀ w ∈ gw, w.before #[Value.ref b] s = true := fun w hw => hts w (gw_sub w hw)
  have hkn : ∀ ci, ci < 6 → ∃ (cC : ClassId) (iS : Nat → Nat), ∀ r : vw_C, vwCl[ci]? = some r → u_Kn s r.1 r.2.1 r.2.2 cC iS := by
    intro ci hci
    obtain ⟨r, hr0⟩ := cl_at ci hci
    obtain ⟨-, hin, -, -, -, hnS, hcN⟩ := cl_ok _ _ hr0
    have hnw := List.all_eq_true.mp NWt_ok ci (List.mem_range.mpr hci)
    rw [Bool.and_eq_true] at hnw
    have w1 := hgw _ (gw_of hnw.1)
    rw [hcN] at w1
    obtain ⟨cC, iS, hk⟩ := u_known (C := r.1) (T := r.2.1) (N := r.2.2) hgw hin w1
    refine ⟨cC, iS, fun r' hr' => ?_⟩
    cases hr0.symm.trans hr'
    exact hk
  obtain ⟨a0, i0, k0⟩ := hkn 0 (by decide)
  obtain ⟨a1, i1, k1⟩ := hkn 1 (by decide)
  obtain ⟨a2, i2, k2⟩ := hkn 2 (by decide)
  obtain ⟨a3, i3, k3⟩ := hkn 3 (by decide)
  obtain ⟨a4, i4, k4⟩ := hkn 4 (by decide)
  obtain ⟨a5, i5, k5⟩ := hkn 5 (by decide)
  obtain ⟨dC, dI, hKc⟩ : ∃ (dC : Nat → ClassId) (dI : Nat → Nat → Nat), ∀ (k : Nat) (q : vw_C), vwCl[k]? = some q → u_Kn s q.1 q.2.1 q.2.2 (dC k) (dI k) := by
    refine ⟨fun k => match k with | 0 => a0 | 1 => a1 | 2 => a2 | 3 => a3 | 4 => a4 | _ => a5, fun k => match k with | 0 => i0 | 1 => i1 | 2 => i2 | 3 => i3 | 4 => i4 | _ => i5, ?_⟩
    intro k q hq
    match k, hq with
    | 0, hq => exact k0 q hq
    | 1, hq => exact k1 q hq
    | 2, hq => exact k2 q hq
    | 3, hq => exact k3 q hq
    | 4, hq => exact k4 q hq
    | 5, hq => exact k5 q hq
    | k + 6, hq => simp [vwCl] at hq
  have hK : KU (dC, dI) s := ⟨⟨hKc, fun k q h => by simp at h⟩, fun w hw => by
    have h9 := hts w (nwS_sub w hw)
    obtain ⟨q, hq, rfl⟩ := List.mem_map.mp hw
    exact va_Nw.of rfl h9, va_AO.of (hts wAO wAO_in)⟩
  have hR0 : Rel (dC, dI) s s.heap.size b [scr0 L xs] s.heap := by
    refine ⟨hbl, by simp, by simp, fun k q hq => ?_⟩
    have hz : k < 1 := (List.getElem?_eq_some_iff.mp hq).1
    rw [show k = 0 by omega] at hq ⊢
    cases hq
    obtain ⟨scr, g1, g2, g3, g4, g5⟩ := hX
    exact ⟨scr, g1, g2, g3, g4, fun j hj => g5 j hj, fun h9 => by cases h9⟩
  obtain ⟨-, hS⟩ := snd_exec l (dC, dI) s.heap.size b n 130 0 (ent 130 [.ref 0]) [] [scr0 L xs] (some (.int 1)) h' (by decide) hex
  have hsl0 : sl [scr0 L xs] = L := by simp [sl, scr0, szE]
  have C : Cx (dC, dI) p room_1 s m #[Value.ref b] meth c 130 := ⟨hx, hb, hml, hown, hgw, hK, fun h9 => absurd h9 (by decide), hr, hlocks, Nat.le_of_ble_eq_true rfl, Nat.le_of_ble_eq_true rfl, by decide⟩
  have hG := hS p e room_1 s m #[Value.ref b] below meth c (lw_Z below #[Value.ref b] s) 1 L C ⟨by show h'.length ≤ 600000 + 1; omega, hz2⟩ (fun pc Lo S i len aux hcd hret => by
      obtain ⟨d1, d2, -⟩ := okPc_use (oc_all 130 (by decide) pc) hcd
      intro ls H locs cells slots hR hl hq hc hsl
      cases i with
      | ireturn =>
        obtain rfl : len = 1 := by simpa [okLen] using d2
        simp only [isRet] at hret
        split at hret
        · split at hret
          · split at hret
            · cases hret
              refine va_forget (fun q h9 => hq q h9) ?_
              refine W.widen (k := 600000) (n := 7302250) (by omega) (by omega) ?_
              exact lw_ret hx hb hr hlocks d1
            · cases hret
          · cases hret
        · cases hret
      | lreturn => simp only [isRet] at hret; (repeat' split at hret) <;> first | (cases hret; done) | (rename_i hcon; exact absurd hcon.1 (by decide))
      | areturn => simp only [isRet] at hret; (repeat' split at hret) <;> first | (cases hret; done) | (rename_i hcon; exact absurd hcon.1 (by decide))
      | return_ => simp only [isRet] at hret; (repeat' split at hret) <;> first | (cases hret; done) | (rename_i hcon; exact absurd hcon.1 (by decide))
      | _ => exact absurd hret (by simp [isRet]))
  rw [lg_entry_eq]
  exact hG _ s.heap [] 0 0 hR0 (lR_ent (N := s.heap.size) (b := b) (m := 130) [.ref 0] (by decide)) (fun q hq => by cases hq) rfl (by rw [hsl0]; omega)
