def okLen (i : Instr) (len : Nat) : Bool := match i with
  | .tableswitch _ _ _ _ => true
  | .bipush _ | .iload _ | .lload _ | .aload _ | .istore _ | .lstore _ | .astore _ | .newarray _ => len == 2
  | .sipush _ | .ldc2_w _ | .iinc _ _ | .ifCond _ _ | .if_icmp _ _ | .ifnull _ | .ifnonnull _ | .goto _ | .getfield _ | .putfield _ | .invokevirtual _ | .invokespecial _ | .invokestatic _ | .new _ | .anewarray _ => len == 3
  | _ => len == 1
def inT (t : List (Nat × Nat × Nat × Nat)) (o x a : Nat) : Bool := t.any fun q => q.1 == o && (q.2.1 == x && q.2.2.1 == a)
def roomOk (m c : Nat) : Bool := decide (mFr c + 1 ≤ mFr m) && decide (8 + (mMax c + 11) + mLo c ≤ mLo m)
def lnk (m : Nat) (i : Instr) (aux : Nat) : Bool := match i with
  | .getfield x => decide (aux / 32 < 6) && decide (aux % 32 < nSl (aux / 32)) && (inT FLt (mCls m) x aux || inT FNt (mCls m) x aux)
  | .putfield x => decide (aux / 32 < 6) && decide (aux % 32 < nSl (aux / 32)) && inT FLt (mCls m) x aux && (!(cT (aux / 32) (aux % 32)).2.2.2 || (decide (mName m = "<init>") && decide (aux / 32 = mCls m)))
  | .invokevirtual x => decide (aux < 130) && inT MLt (mCls m) x aux && decide (mKind aux = 2) && roomOk m aux
  | .invokespecial x => if aux = 999 then (OLt.any fun q => q.1 == mCls m && q.2.1 == x) && decide (1 ≤ mFr m) && decide (12 ≤ mLo m) else decide (aux < 130) && inT MLt (mCls m) x aux && decide (mKind aux = 1) && roomOk m aux
  | .invokestatic x => decide (aux < 130) && inT MLt (mCls m) x aux && decide (mKind aux = 0) && roomOk m aux
  | .new x => decide (aux < 6) && inT CLt (mCls m) x aux
  | .anewarray x => decide (aux = 1) && inT CLt (mCls m) x aux
  | .newarray t => match t with
    | .int | .boolean | .long => true
    | _ => false
  | .ldc2_w x => decide (aux < kcs.length) && inT KLt (mCls m) x aux
  | _ => true
def okPc (m pc : Nat) : Bool := match cd m pc with
  | none => true
  | some (i, len, aux) => decide (decode (mBytes m) pc = .ok (i, len)) && okLen i len && lnk m i aux
theorem okPc_big {m pc : Nat} (h : (mCode m).length ≤ pc) : okPc m pc = true := by
  unfold okPc cd
  rw [List.getElem?_eq_none h]
  rfl

theorem oc_0_0 : (List.range' 0 48).all (okPc 0) = true := by decide +kernel
theorem oc_0_1 : (List.range' 48 15).all (okPc 0) = true := by decide +kernel
theorem oc_0 : ∀ pc, okPc 0 pc = true := by
  intro pc
  rcases (show (0 ≤ pc ∧ pc < 48) ∨ (48 ≤ pc ∧ pc < 63) ∨ 63 ≤ pc by omega) with h | h | h
  · exact List.all_eq_true.mp oc_0_0 pc (List.mem_range'_1.mpr (by omega))
  · exact List.all_eq_true.mp oc_0_1 pc (List.mem_range'_1.mpr (by omega))
  · exact okPc_big (Nat.le_trans (Nat.le_of_ble_eq_true (by decide +kernel)) h)
theorem oc_1_0 : (List.range' 0 14).all (okPc 1) = true := by decide +kernel
theorem oc_1 : ∀ pc, okPc 1 pc = true := by
  intro pc
  rcases (show (0 ≤ pc ∧ pc < 14) ∨ 14 ≤ pc by omega) with h | h
  · exact List.all_eq_true.mp oc_1_0 pc (List.mem_range'_1.mpr (by omega))
  · exact okPc_big (Nat.le_trans (Nat.le_of_ble_eq_true (by decide +kernel)) h)
theorem oc_2_0 : (List.range' 0 6).all (okPc 2) = true := by decide +kernel
theorem oc_2 : ∀ pc, okPc 2 pc = true := by
  intro pc
  rcases (show (0 ≤ pc ∧ pc < 6) ∨ 6 ≤ pc by omega) with h | h
  · exact List.all_eq_true.mp oc_2_0 pc (List.mem_range'_1.mpr (by omega))
  · exact okPc_big (Nat.le_trans (Nat.le_of_ble_eq_true (by decide +kernel)) h)
theorem oc_3_0 : (List.range' 0 5).all (okPc 3) = true := by decide +kernel
theorem oc_3 : ∀ pc, okPc 3 pc = true := by
  intro pc
  rcases (show (0 ≤ pc ∧ pc < 5) ∨ 5 ≤ pc by omega) with h | h
  · exact List.all_eq_true.mp oc_3_0 pc (List.mem_range'_1.mpr (by omega))
  · exact okPc_big (Nat.le_trans (Nat.le_of_ble_eq_true (by decide +kernel)) h)
theorem oc_4_0 : (List.range' 0 5).all (okPc 4) = true := by decide +kernel
theorem oc_4 : ∀ pc, okPc 4 pc = true := by
  intro pc
  rcases (show (0 ≤ pc ∧ pc < 5) ∨ 5 ≤ pc by omega) with h | h
  · exact List.all_eq_true.mp oc_4_0 pc (List.mem_range'_1.mpr (by omega))
  · exact okPc_big (Nat.le_trans (Nat.le_of_ble_eq_true (by decide +kernel)) h)
theorem oc_5_0 : (List.range' 0 18).all (okPc 5) = true := by decide +kernel
theorem oc_5 : ∀ pc, okPc 5 pc = true := by
  intro pc
  rcases (show (0 ≤ pc ∧ pc < 18) ∨ 18 ≤ pc by omega) with h | h
  · exact List.all_eq_true.mp oc_5_0 pc (List.mem_range'_1.mpr (by omega))
  · exact okPc_big (Nat.le_trans (Nat.le_of_ble_eq_true (by decide +kernel)) h)
theorem oc_6_0 : (List.range' 0 30).all (okPc 6) = true := by decide +kernel
theorem oc_6 : ∀ pc, okPc 6 pc = true := by
  intro pc
  rcases (show (0 ≤ pc ∧ pc < 30) ∨ 30 ≤ pc by omega) with h | h
  · exact List.all_eq_true.mp oc_6_0 pc (List.mem_range'_1.mpr (by omega))
  · exact okPc_big (Nat.le_trans (Nat.le_of_ble_eq_true (by decide +kernel)) h)
theorem oc_7_0 : (List.range' 0 41).all (okPc 7) = true := by decide +kernel
theorem oc_7 : ∀ pc, okPc 7 pc = true := by
  intro pc
  rcases (show (0 ≤ pc ∧ pc < 41) ∨ 41 ≤ pc by omega) with h | h
  · exact List.all_eq_true.mp oc_7_0 pc (List.mem_range'_1.mpr (by omega))
  · exact okPc_big (Nat.le_trans (Nat.le_of_ble_eq_true (by decide +kernel)) h)
theorem oc_8_0 : (List.range' 0 48).all (okPc 8) = true := by decide +kernel
theorem oc_8_1 : (List.range' 48 8).all (okPc 8) = true := by decide +kernel
theorem oc_8 : ∀ pc, okPc 8 pc = true := by
  intro pc
  rcases (show (0 ≤ pc ∧ pc < 48) ∨ (48 ≤ pc ∧ pc < 56) ∨ 56 ≤ pc by omega) with h | h | h
  · exact List.all_eq_true.mp oc_8_0 pc (List.mem_range'_1.mpr (by omega))
  · exact List.all_eq_true.mp oc_8_1 pc (List.mem_range'_1.mpr (by omega))
  · exact okPc_big (Nat.le_trans (Nat.le_of_ble_eq_true (by decide +kernel)) h)
theorem oc_9_0 : (List.range' 0 40).all (okPc 9) = true := by decide +kernel
theorem oc_9 : ∀ pc, okPc 9 pc = true := by
  intro pc
  rcases (show (0 ≤ pc ∧ pc < 40) ∨ 40 ≤ pc by omega) with h | h
  · exact List.all_eq_true.mp oc_9_0 pc (List.mem_range'_1.mpr (by omega))
  · exact okPc_big (Nat.le_trans (Nat.le_of_ble_eq_true (by decide +kernel)) h)
theorem oc_10_0 : (List.range' 0 48).all (okPc 10) = true := by decide +kernel
theorem oc_10_1 : (List.range' 48 7).all (okPc 10) = true := by decide +kernel
theorem oc_10 : ∀ pc, okPc 10 pc = true := by
  intro pc
  rcases (show (0 ≤ pc ∧ pc < 48) ∨ (48 ≤ pc ∧ pc < 55) ∨ 55 ≤ pc by omega) with h | h | h
  · exact List.all_eq_true.mp oc_10_0 pc (List.mem_range'_1.mpr (by omega))
  · exact List.all_eq_true.mp oc_10_1 pc (List.mem_range'_1.mpr (by omega))
  · exact okPc_big (Nat.le_trans (Nat.le_of_ble_eq_true (by decide +kernel)) h)
theorem oc_11_0 : (List.range' 0 16).all (okPc 11) = true := by decide +kernel
theorem oc_11 : ∀ pc, okPc 11 pc = true := by
  intro pc
  rcases (show (0 ≤ pc ∧ pc < 16) ∨ 16 ≤ pc by omega) with h | h
  · exact List.all_eq_true.mp oc_11_0 pc (List.mem_range'_1.mpr (by omega))
  · exact okPc_big (Nat.le_trans (Nat.le_of_ble_eq_true (by decide +kernel)) h)
theorem oc_12_0 : (List.range' 0 16).all (okPc 12) = true := by decide +kernel
theorem oc_12 : ∀ pc, okPc 12 pc = true := by
  intro pc
  rcases (show (0 ≤ pc ∧ pc < 16) ∨ 16 ≤ pc by omega) with h | h
  · exact List.all_eq_true.mp oc_12_0 pc (List.mem_range'_1.mpr (by omega))
  · exact okPc_big (Nat.le_trans (Nat.le_of_ble_eq_true (by decide +kernel)) h)
theorem oc_13_0 : (List.range' 0 31).all (okPc 13) = true := by decide +kernel
theorem oc_13 : ∀ pc, okPc 13 pc = true := by
  intro pc
  rcases (show (0 ≤ pc ∧ pc < 31) ∨ 31 ≤ pc by omega) with h | h
  · exact List.all_eq_true.mp oc_13_0 pc (List.mem_range'_1.mpr (by omega))
  · exact okPc_big (Nat.le_trans (Nat.le_of_ble_eq_true (by decide +kernel)) h)
theorem oc_14_0 : (List.range' 0 48).all (okPc 14) = true := by decide +kernel
theorem oc_14_1 : (List.range' 48 43).all (okPc 14) = true := by decide +kernel
theorem oc_14 : ∀ pc, okPc 14 pc = true := by
  intro pc
  rcases (show (0 ≤ pc ∧ pc < 48) ∨ (48 ≤ pc ∧ pc < 91) ∨ 91 ≤ pc by omega) with h | h | h
  · exact List.all_eq_true.mp oc_14_0 pc (List.mem_range'_1.mpr (by omega))
  · exact List.all_eq_true.mp oc_14_1 pc (List.mem_range'_1.mpr (by omega))
  · exact okPc_big (Nat.le_trans (Nat.le_of_ble_eq_true (by decide +kernel)) h)
theorem oc_15_0 : (List.range' 0 48).all (okPc 15) = true := by decide +kernel
theorem oc_15_1 : (List.range' 48 19).all (okPc 15) = true := by decide +kernel
theorem oc_15 : ∀ pc, okPc 15 pc = true := by
  intro pc
  rcases (show (0 ≤ pc ∧ pc < 48) ∨ (48 ≤ pc ∧ pc < 67) ∨ 67 ≤ pc by omega) with h | h | h
  · exact List.all_eq_true.mp oc_15_0 pc (List.mem_range'_1.mpr (by omega))
  · exact List.all_eq_true.mp oc_15_1 pc (List.mem_range'_1.mpr (by omega))
  · exact okPc_big (Nat.le_trans (Nat.le_of_ble_eq_true (by decide +kernel)) h)
theorem oc_16_0 : (List.range' 0 16).all (okPc 16) = true := by decide +kernel
theorem oc_16 : ∀ pc, okPc 16 pc = true := by
  intro pc
  rcases (show (0 ≤ pc ∧ pc < 16) ∨ 16 ≤ pc by omega) with h | h
  · exact List.all_eq_true.mp oc_16_0 pc (List.mem_range'_1.mpr (by omega))
  · exact okPc_big (Nat.le_trans (Nat.le_of_ble_eq_true (by decide +kernel)) h)
theorem oc_17_0 : (List.range' 0 48).all (okPc 17) = true := by decide +kernel
theorem oc_17_1 : (List.range' 48 13).all (okPc 17) = true := by decide +kernel
theorem oc_17 : ∀ pc, okPc 17 pc = true := by
  intro pc
  rcases (show (0 ≤ pc ∧ pc < 48) ∨ (48 ≤ pc ∧ pc < 61) ∨ 61 ≤ pc by omega) with h | h | h
  · exact List.all_eq_true.mp oc_17_0 pc (List.mem_range'_1.mpr (by omega))
  · exact List.all_eq_true.mp oc_17_1 pc (List.mem_range'_1.mpr (by omega))
  · exact okPc_big (Nat.le_trans (Nat.le_of_ble_eq_true (by decide +kernel)) h)
theorem oc_18_0 : (List.range' 0 41).all (okPc 18) = true := by decide +kernel
theorem oc_18 : ∀ pc, okPc 18 pc = true := by
  intro pc
  rcases (show (0 ≤ pc ∧ pc < 41) ∨ 41 ≤ pc by omega) with h | h
  · exact List.all_eq_true.mp oc_18_0 pc (List.mem_range'_1.mpr (by omega))
  · exact okPc_big (Nat.le_trans (Nat.le_of_ble_eq_true (by decide +kernel)) h)
theorem oc_19_0 : (List.range' 0 40).all (okPc 19) = true := by decide +kernel
theorem oc_19 : ∀ pc, okPc 19 pc = true := by
  intro pc
  rcases (show (0 ≤ pc ∧ pc < 40) ∨ 40 ≤ pc by omega) with h | h
  · exact List.all_eq_true.mp oc_19_0 pc (List.mem_range'_1.mpr (by omega))
  · exact okPc_big (Nat.le_trans (Nat.le_of_ble_eq_true (by decide +kernel)) h)
theorem oc_20_0 : (List.range' 0 48).all (okPc 20) = true := by decide +kernel
theorem oc_20_1 : (List.range' 48 13).all (okPc 20) = true := by decide +kernel
theorem oc_20 : ∀ pc, okPc 20 pc = true := by
  intro pc
  rcases (show (0 ≤ pc ∧ pc < 48) ∨ (48 ≤ pc ∧ pc < 61) ∨ 61 ≤ pc by omega) with h | h | h
  · exact List.all_eq_true.mp oc_20_0 pc (List.mem_range'_1.mpr (by omega))
  · exact List.all_eq_true.mp oc_20_1 pc (List.mem_range'_1.mpr (by omega))
  · exact okPc_big (Nat.le_trans (Nat.le_of_ble_eq_true (by decide +kernel)) h)
theorem oc_21_0 : (List.range' 0 48).all (okPc 21) = true := by decide +kernel
theorem oc_21_1 : (List.range' 48 48).all (okPc 21) = true := by decide +kernel
theorem oc_21_2 : (List.range' 96 45).all (okPc 21) = true := by decide +kernel
theorem oc_21 : ∀ pc, okPc 21 pc = true := by
  intro pc
  rcases (show (0 ≤ pc ∧ pc < 48) ∨ (48 ≤ pc ∧ pc < 96) ∨ (96 ≤ pc ∧ pc < 141) ∨ 141 ≤ pc by omega) with h | h | h | h
  · exact List.all_eq_true.mp oc_21_0 pc (List.mem_range'_1.mpr (by omega))
  · exact List.all_eq_true.mp oc_21_1 pc (List.mem_range'_1.mpr (by omega))
  · exact List.all_eq_true.mp oc_21_2 pc (List.mem_range'_1.mpr (by omega))
  · exact okPc_big (Nat.le_trans (Nat.le_of_ble_eq_true (by decide +kernel)) h)
theorem oc_22_0 : (List.range' 0 48).all (okPc 22) = true := by decide +kernel
theorem oc_22_1 : (List.range' 48 31).all (okPc 22) = true := by decide +kernel
theorem oc_22 : ∀ pc, okPc 22 pc = true := by
  intro pc
  rcases (show (0 ≤ pc ∧ pc < 48) ∨ (48 ≤ pc ∧ pc < 79) ∨ 79 ≤ pc by omega) with h | h | h
  · exact List.all_eq_true.mp oc_22_0 pc (List.mem_range'_1.mpr (by omega))
  · exact List.all_eq_true.mp oc_22_1 pc (List.mem_range'_1.mpr (by omega))
  · exact okPc_big (Nat.le_trans (Nat.le_of_ble_eq_true (by decide +kernel)) h)
theorem oc_23_0 : (List.range' 0 48).all (okPc 23) = true := by decide +kernel
theorem oc_23 : ∀ pc, okPc 23 pc = true := by
  intro pc
  rcases (show (0 ≤ pc ∧ pc < 48) ∨ 48 ≤ pc by omega) with h | h
  · exact List.all_eq_true.mp oc_23_0 pc (List.mem_range'_1.mpr (by omega))
  · exact okPc_big (Nat.le_trans (Nat.le_of_ble_eq_true (by decide +kernel)) h)
theorem oc_24_0 : (List.range' 0 11).all (okPc 24) = true := by decide +kernel
theorem oc_24 : ∀ pc, okPc 24 pc = true := by
  intro pc
  rcases (show (0 ≤ pc ∧ pc < 11) ∨ 11 ≤ pc by omega) with h | h
  · exact List.all_eq_true.mp oc_24_0 pc (List.mem_range'_1.mpr (by omega))
  · exact okPc_big (Nat.le_trans (Nat.le_of_ble_eq_true (by decide +kernel)) h)
theorem oc_25_0 : (List.range' 0 13).all (okPc 25) = true := by decide +kernel
theorem oc_25 : ∀ pc, okPc 25 pc = true := by
  intro pc
  rcases (show (0 ≤ pc ∧ pc < 13) ∨ 13 ≤ pc by omega) with h | h
  · exact List.all_eq_true.mp oc_25_0 pc (List.mem_range'_1.mpr (by omega))
  · exact okPc_big (Nat.le_trans (Nat.le_of_ble_eq_true (by decide +kernel)) h)
theorem oc_26_0 : (List.range' 0 14).all (okPc 26) = true := by decide +kernel
theorem oc_26 : ∀ pc, okPc 26 pc = true := by
  intro pc
  rcases (show (0 ≤ pc ∧ pc < 14) ∨ 14 ≤ pc by omega) with h | h
  · exact List.all_eq_true.mp oc_26_0 pc (List.mem_range'_1.mpr (by omega))
  · exact okPc_big (Nat.le_trans (Nat.le_of_ble_eq_true (by decide +kernel)) h)
theorem oc_27_0 : (List.range' 0 14).all (okPc 27) = true := by decide +kernel
theorem oc_27 : ∀ pc, okPc 27 pc = true := by
  intro pc
  rcases (show (0 ≤ pc ∧ pc < 14) ∨ 14 ≤ pc by omega) with h | h
  · exact List.all_eq_true.mp oc_27_0 pc (List.mem_range'_1.mpr (by omega))
  · exact okPc_big (Nat.le_trans (Nat.le_of_ble_eq_true (by decide +kernel)) h)
theorem oc_28_0 : (List.range' 0 35).all (okPc 28) = true := by decide +kernel
theorem oc_28 : ∀ pc, okPc 28 pc = true := by
  intro pc
  rcases (show (0 ≤ pc ∧ pc < 35) ∨ 35 ≤ pc by omega) with h | h
  · exact List.all_eq_true.mp oc_28_0 pc (List.mem_range'_1.mpr (by omega))
  · exact okPc_big (Nat.le_trans (Nat.le_of_ble_eq_true (by decide +kernel)) h)
theorem oc_29_0 : (List.range' 0 20).all (okPc 29) = true := by decide +kernel
theorem oc_29 : ∀ pc, okPc 29 pc = true := by
  intro pc
  rcases (show (0 ≤ pc ∧ pc < 20) ∨ 20 ≤ pc by omega) with h | h
  · exact List.all_eq_true.mp oc_29_0 pc (List.mem_range'_1.mpr (by omega))
  · exact okPc_big (Nat.le_trans (Nat.le_of_ble_eq_true (by decide +kernel)) h)
theorem oc_30_0 : (List.range' 0 15).all (okPc 30) = true := by decide +kernel
theorem oc_30 : ∀ pc, okPc 30 pc = true := by
  intro pc
  rcases (show (0 ≤ pc ∧ pc < 15) ∨ 15 ≤ pc by omega) with h | h
  · exact List.all_eq_true.mp oc_30_0 pc (List.mem_range'_1.mpr (by omega))
  · exact okPc_big (Nat.le_trans (Nat.le_of_ble_eq_true (by decide +kernel)) h)
theorem oc_31_0 : (List.range' 0 19).all (okPc 31) = true := by decide +kernel
theorem oc_31 : ∀ pc, okPc 31 pc = true := by
  intro pc
  rcases (show (0 ≤ pc ∧ pc < 19) ∨ 19 ≤ pc by omega) with h | h
  · exact List.all_eq_true.mp oc_31_0 pc (List.mem_range'_1.mpr (by omega))
  · exact okPc_big (Nat.le_trans (Nat.le_of_ble_eq_true (by decide +kernel)) h)
theorem oc_32_0 : (List.range' 0 19).all (okPc 32) = true := by decide +kernel
theorem oc_32 : ∀ pc, okPc 32 pc = true := by
  intro pc
  rcases (show (0 ≤ pc ∧ pc < 19) ∨ 19 ≤ pc by omega) with h | h
  · exact List.all_eq_true.mp oc_32_0 pc (List.mem_range'_1.mpr (by omega))
  · exact okPc_big (Nat.le_trans (Nat.le_of_ble_eq_true (by decide +kernel)) h)
theorem oc_33_0 : (List.range' 0 19).all (okPc 33) = true := by decide +kernel
theorem oc_33 : ∀ pc, okPc 33 pc = true := by
  intro pc
  rcases (show (0 ≤ pc ∧ pc < 19) ∨ 19 ≤ pc by omega) with h | h
  · exact List.all_eq_true.mp oc_33_0 pc (List.mem_range'_1.mpr (by omega))
  · exact okPc_big (Nat.le_trans (Nat.le_of_ble_eq_true (by decide +kernel)) h)
theorem oc_34_0 : (List.range' 0 19).all (okPc 34) = true := by decide +kernel
theorem oc_34 : ∀ pc, okPc 34 pc = true := by
  intro pc
  rcases (show (0 ≤ pc ∧ pc < 19) ∨ 19 ≤ pc by omega) with h | h
  · exact List.all_eq_true.mp oc_34_0 pc (List.mem_range'_1.mpr (by omega))
  · exact okPc_big (Nat.le_trans (Nat.le_of_ble_eq_true (by decide +kernel)) h)
theorem oc_35_0 : (List.range' 0 48).all (okPc 35) = true := by decide +kernel
theorem oc_35_1 : (List.range' 48 3).all (okPc 35) = true := by decide +kernel
theorem oc_35 : ∀ pc, okPc 35 pc = true := by
  intro pc
  rcases (show (0 ≤ pc ∧ pc < 48) ∨ (48 ≤ pc ∧ pc < 51) ∨ 51 ≤ pc by omega) with h | h | h
  · exact List.all_eq_true.mp oc_35_0 pc (List.mem_range'_1.mpr (by omega))
  · exact List.all_eq_true.mp oc_35_1 pc (List.mem_range'_1.mpr (by omega))
  · exact okPc_big (Nat.le_trans (Nat.le_of_ble_eq_true (by decide +kernel)) h)
theorem oc_36_0 : (List.range' 0 20).all (okPc 36) = true := by decide +kernel
theorem oc_36 : ∀ pc, okPc 36 pc = true := by
  intro pc
  rcases (show (0 ≤ pc ∧ pc < 20) ∨ 20 ≤ pc by omega) with h | h
  · exact List.all_eq_true.mp oc_36_0 pc (List.mem_range'_1.mpr (by omega))
  · exact okPc_big (Nat.le_trans (Nat.le_of_ble_eq_true (by decide +kernel)) h)
theorem oc_37_0 : (List.range' 0 34).all (okPc 37) = true := by decide +kernel
theorem oc_37 : ∀ pc, okPc 37 pc = true := by
  intro pc
  rcases (show (0 ≤ pc ∧ pc < 34) ∨ 34 ≤ pc by omega) with h | h
  · exact List.all_eq_true.mp oc_37_0 pc (List.mem_range'_1.mpr (by omega))
  · exact okPc_big (Nat.le_trans (Nat.le_of_ble_eq_true (by decide +kernel)) h)
theorem oc_38_0 : (List.range' 0 48).all (okPc 38) = true := by decide +kernel
theorem oc_38_1 : (List.range' 48 48).all (okPc 38) = true := by decide +kernel
theorem oc_38_2 : (List.range' 96 26).all (okPc 38) = true := by decide +kernel
theorem oc_38 : ∀ pc, okPc 38 pc = true := by
  intro pc
  rcases (show (0 ≤ pc ∧ pc < 48) ∨ (48 ≤ pc ∧ pc < 96) ∨ (96 ≤ pc ∧ pc < 122) ∨ 122 ≤ pc by omega) with h | h | h | h
  · exact List.all_eq_true.mp oc_38_0 pc (List.mem_range'_1.mpr (by omega))
  · exact List.all_eq_true.mp oc_38_1 pc (List.mem_range'_1.mpr (by omega))
  · exact List.all_eq_true.mp oc_38_2 pc (List.mem_range'_1.mpr (by omega))
  · exact okPc_big (Nat.le_trans (Nat.le_of_ble_eq_true (by decide +kernel)) h)
theorem oc_39_0 : (List.range' 0 48).all (okPc 39) = true := by decide +kernel
theorem oc_39_1 : (List.range' 48 32).all (okPc 39) = true := by decide +kernel
theorem oc_39 : ∀ pc, okPc 39 pc = true := by
  intro pc
  rcases (show (0 ≤ pc ∧ pc < 48) ∨ (48 ≤ pc ∧ pc < 80) ∨ 80 ≤ pc by omega) with h | h | h
  · exact List.all_eq_true.mp oc_39_0 pc (List.mem_range'_1.mpr (by omega))
  · exact List.all_eq_true.mp oc_39_1 pc (List.mem_range'_1.mpr (by omega))
  · exact okPc_big (Nat.le_trans (Nat.le_of_ble_eq_true (by decide +kernel)) h)
theorem oc_40_0 : (List.range' 0 48).all (okPc 40) = true := by decide +kernel
theorem oc_40_1 : (List.range' 48 48).all (okPc 40) = true := by decide +kernel
theorem oc_40_2 : (List.range' 96 5).all (okPc 40) = true := by decide +kernel
theorem oc_40 : ∀ pc, okPc 40 pc = true := by
  intro pc
  rcases (show (0 ≤ pc ∧ pc < 48) ∨ (48 ≤ pc ∧ pc < 96) ∨ (96 ≤ pc ∧ pc < 101) ∨ 101 ≤ pc by omega) with h | h | h | h
  · exact List.all_eq_true.mp oc_40_0 pc (List.mem_range'_1.mpr (by omega))
  · exact List.all_eq_true.mp oc_40_1 pc (List.mem_range'_1.mpr (by omega))
  · exact List.all_eq_true.mp oc_40_2 pc (List.mem_range'_1.mpr (by omega))
  · exact okPc_big (Nat.le_trans (Nat.le_of_ble_eq_true (by decide +kernel)) h)
theorem oc_41_0 : (List.range' 0 23).all (okPc 41) = true := by decide +kernel
theorem oc_41 : ∀ pc, okPc 41 pc = true := by
  intro pc
  rcases (show (0 ≤ pc ∧ pc < 23) ∨ 23 ≤ pc by omega) with h | h
  · exact List.all_eq_true.mp oc_41_0 pc (List.mem_range'_1.mpr (by omega))
  · exact okPc_big (Nat.le_trans (Nat.le_of_ble_eq_true (by decide +kernel)) h)
theorem oc_42_0 : (List.range' 0 18).all (okPc 42) = true := by decide +kernel
theorem oc_42 : ∀ pc, okPc 42 pc = true := by
  intro pc
  rcases (show (0 ≤ pc ∧ pc < 18) ∨ 18 ≤ pc by omega) with h | h
  · exact List.all_eq_true.mp oc_42_0 pc (List.mem_range'_1.mpr (by omega))
  · exact okPc_big (Nat.le_trans (Nat.le_of_ble_eq_true (by decide +kernel)) h)
theorem oc_43_0 : (List.range' 0 6).all (okPc 43) = true := by decide +kernel
theorem oc_43 : ∀ pc, okPc 43 pc = true := by
  intro pc
  rcases (show (0 ≤ pc ∧ pc < 6) ∨ 6 ≤ pc by omega) with h | h
  · exact List.all_eq_true.mp oc_43_0 pc (List.mem_range'_1.mpr (by omega))
  · exact okPc_big (Nat.le_trans (Nat.le_of_ble_eq_true (by decide +kernel)) h)
theorem oc_44_0 : (List.range' 0 5).all (okPc 44) = true := by decide +kernel
theorem oc_44 : ∀ pc, okPc 44 pc = true := by
  intro pc
  rcases (show (0 ≤ pc ∧ pc < 5) ∨ 5 ≤ pc by omega) with h | h
  · exact List.all_eq_true.mp oc_44_0 pc (List.mem_range'_1.mpr (by omega))
  · exact okPc_big (Nat.le_trans (Nat.le_of_ble_eq_true (by decide +kernel)) h)
theorem oc_45_0 : (List.range' 0 32).all (okPc 45) = true := by decide +kernel
theorem oc_45 : ∀ pc, okPc 45 pc = true := by
  intro pc
  rcases (show (0 ≤ pc ∧ pc < 32) ∨ 32 ≤ pc by omega) with h | h
  · exact List.all_eq_true.mp oc_45_0 pc (List.mem_range'_1.mpr (by omega))
  · exact okPc_big (Nat.le_trans (Nat.le_of_ble_eq_true (by decide +kernel)) h)
theorem oc_46_0 : (List.range' 0 40).all (okPc 46) = true := by decide +kernel
theorem oc_46 : ∀ pc, okPc 46 pc = true := by
  intro pc
  rcases (show (0 ≤ pc ∧ pc < 40) ∨ 40 ≤ pc by omega) with h | h
  · exact List.all_eq_true.mp oc_46_0 pc (List.mem_range'_1.mpr (by omega))
  · exact okPc_big (Nat.le_trans (Nat.le_of_ble_eq_true (by decide +kernel)) h)
theorem oc_47_0 : (List.range' 0 48).all (okPc 47) = true := by decide +kernel
theorem oc_47_1 : (List.range' 48 6).all (okPc 47) = true := by decide +kernel
theorem oc_47 : ∀ pc, okPc 47 pc = true := by
  intro pc
  rcases (show (0 ≤ pc ∧ pc < 48) ∨ (48 ≤ pc ∧ pc < 54) ∨ 54 ≤ pc by omega) with h | h | h
  · exact List.all_eq_true.mp oc_47_0 pc (List.mem_range'_1.mpr (by omega))
  · exact List.all_eq_true.mp oc_47_1 pc (List.mem_range'_1.mpr (by omega))
  · exact okPc_big (Nat.le_trans (Nat.le_of_ble_eq_true (by decide +kernel)) h)
theorem oc_48_0 : (List.range' 0 16).all (okPc 48) = true := by decide +kernel
theorem oc_48 : ∀ pc, okPc 48 pc = true := by
  intro pc
  rcases (show (0 ≤ pc ∧ pc < 16) ∨ 16 ≤ pc by omega) with h | h
  · exact List.all_eq_true.mp oc_48_0 pc (List.mem_range'_1.mpr (by omega))
  · exact okPc_big (Nat.le_trans (Nat.le_of_ble_eq_true (by decide +kernel)) h)
theorem oc_49_0 : (List.range' 0 11).all (okPc 49) = true := by decide +kernel
theorem oc_49 : ∀ pc, okPc 49 pc = true := by
  intro pc
  rcases (show (0 ≤ pc ∧ pc < 11) ∨ 11 ≤ pc by omega) with h | h
  · exact List.all_eq_true.mp oc_49_0 pc (List.mem_range'_1.mpr (by omega))
  · exact okPc_big (Nat.le_trans (Nat.le_of_ble_eq_true (by decide +kernel)) h)
theorem oc_50_0 : (List.range' 0 16).all (okPc 50) = true := by decide +kernel
theorem oc_50 : ∀ pc, okPc 50 pc = true := by
  intro pc
  rcases (show (0 ≤ pc ∧ pc < 16) ∨ 16 ≤ pc by omega) with h | h
  · exact List.all_eq_true.mp oc_50_0 pc (List.mem_range'_1.mpr (by omega))
  · exact okPc_big (Nat.le_trans (Nat.le_of_ble_eq_true (by decide +kernel)) h)
theorem oc_51_0 : (List.range' 0 6).all (okPc 51) = true := by decide +kernel
theorem oc_51 : ∀ pc, okPc 51 pc = true := by
  intro pc
  rcases (show (0 ≤ pc ∧ pc < 6) ∨ 6 ≤ pc by omega) with h | h
  · exact List.all_eq_true.mp oc_51_0 pc (List.mem_range'_1.mpr (by omega))
  · exact okPc_big (Nat.le_trans (Nat.le_of_ble_eq_true (by decide +kernel)) h)
theorem oc_52_0 : (List.range' 0 44).all (okPc 52) = true := by decide +kernel
theorem oc_52 : ∀ pc, okPc 52 pc = true := by
  intro pc
  rcases (show (0 ≤ pc ∧ pc < 44) ∨ 44 ≤ pc by omega) with h | h
  · exact List.all_eq_true.mp oc_52_0 pc (List.mem_range'_1.mpr (by omega))
  · exact okPc_big (Nat.le_trans (Nat.le_of_ble_eq_true (by decide +kernel)) h)
