theorem oc_53_0 : (List.range' 0 48).all (okPc 53) = true := by decide +kernel
theorem oc_53_1 : (List.range' 48 48).all (okPc 53) = true := by decide +kernel
theorem oc_53_2 : (List.range' 96 9).all (okPc 53) = true := by decide +kernel
theorem oc_53 : ∀ pc, okPc 53 pc = true := by
  intro pc
  rcases (show (0 ≤ pc ∧ pc < 48) ∨ (48 ≤ pc ∧ pc < 96) ∨ (96 ≤ pc ∧ pc < 105) ∨ 105 ≤ pc by omega) with h | h | h | h
  · exact List.all_eq_true.mp oc_53_0 pc (List.mem_range'_1.mpr (by omega))
  · exact List.all_eq_true.mp oc_53_1 pc (List.mem_range'_1.mpr (by omega))
  · exact List.all_eq_true.mp oc_53_2 pc (List.mem_range'_1.mpr (by omega))
  · exact okPc_big (Nat.le_trans (Nat.le_of_ble_eq_true (by decide +kernel)) h)
theorem oc_54_0 : (List.range' 0 9).all (okPc 54) = true := by decide +kernel
theorem oc_54 : ∀ pc, okPc 54 pc = true := by
  intro pc
  rcases (show (0 ≤ pc ∧ pc < 9) ∨ 9 ≤ pc by omega) with h | h
  · exact List.all_eq_true.mp oc_54_0 pc (List.mem_range'_1.mpr (by omega))
  · exact okPc_big (Nat.le_trans (Nat.le_of_ble_eq_true (by decide +kernel)) h)
theorem oc_55_0 : (List.range' 0 8).all (okPc 55) = true := by decide +kernel
theorem oc_55 : ∀ pc, okPc 55 pc = true := by
  intro pc
  rcases (show (0 ≤ pc ∧ pc < 8) ∨ 8 ≤ pc by omega) with h | h
  · exact List.all_eq_true.mp oc_55_0 pc (List.mem_range'_1.mpr (by omega))
  · exact okPc_big (Nat.le_trans (Nat.le_of_ble_eq_true (by decide +kernel)) h)
theorem oc_56_0 : (List.range' 0 13).all (okPc 56) = true := by decide +kernel
theorem oc_56 : ∀ pc, okPc 56 pc = true := by
  intro pc
  rcases (show (0 ≤ pc ∧ pc < 13) ∨ 13 ≤ pc by omega) with h | h
  · exact List.all_eq_true.mp oc_56_0 pc (List.mem_range'_1.mpr (by omega))
  · exact okPc_big (Nat.le_trans (Nat.le_of_ble_eq_true (by decide +kernel)) h)
theorem oc_57_0 : (List.range' 0 42).all (okPc 57) = true := by decide +kernel
theorem oc_57 : ∀ pc, okPc 57 pc = true := by
  intro pc
  rcases (show (0 ≤ pc ∧ pc < 42) ∨ 42 ≤ pc by omega) with h | h
  · exact List.all_eq_true.mp oc_57_0 pc (List.mem_range'_1.mpr (by omega))
  · exact okPc_big (Nat.le_trans (Nat.le_of_ble_eq_true (by decide +kernel)) h)
theorem oc_58_0 : (List.range' 0 48).all (okPc 58) = true := by decide +kernel
theorem oc_58_1 : (List.range' 48 34).all (okPc 58) = true := by decide +kernel
theorem oc_58 : ∀ pc, okPc 58 pc = true := by
  intro pc
  rcases (show (0 ≤ pc ∧ pc < 48) ∨ (48 ≤ pc ∧ pc < 82) ∨ 82 ≤ pc by omega) with h | h | h
  · exact List.all_eq_true.mp oc_58_0 pc (List.mem_range'_1.mpr (by omega))
  · exact List.all_eq_true.mp oc_58_1 pc (List.mem_range'_1.mpr (by omega))
  · exact okPc_big (Nat.le_trans (Nat.le_of_ble_eq_true (by decide +kernel)) h)
theorem oc_59_0 : (List.range' 0 48).all (okPc 59) = true := by decide +kernel
theorem oc_59_1 : (List.range' 48 48).all (okPc 59) = true := by decide +kernel
theorem oc_59_2 : (List.range' 96 26).all (okPc 59) = true := by decide +kernel
theorem oc_59 : ∀ pc, okPc 59 pc = true := by
  intro pc
  rcases (show (0 ≤ pc ∧ pc < 48) ∨ (48 ≤ pc ∧ pc < 96) ∨ (96 ≤ pc ∧ pc < 122) ∨ 122 ≤ pc by omega) with h | h | h | h
  · exact List.all_eq_true.mp oc_59_0 pc (List.mem_range'_1.mpr (by omega))
  · exact List.all_eq_true.mp oc_59_1 pc (List.mem_range'_1.mpr (by omega))
  · exact List.all_eq_true.mp oc_59_2 pc (List.mem_range'_1.mpr (by omega))
  · exact okPc_big (Nat.le_trans (Nat.le_of_ble_eq_true (by decide +kernel)) h)
theorem oc_60_0 : (List.range' 0 48).all (okPc 60) = true := by decide +kernel
theorem oc_60_1 : (List.range' 48 48).all (okPc 60) = true := by decide +kernel
theorem oc_60_2 : (List.range' 96 20).all (okPc 60) = true := by decide +kernel
theorem oc_60 : ∀ pc, okPc 60 pc = true := by
  intro pc
  rcases (show (0 ≤ pc ∧ pc < 48) ∨ (48 ≤ pc ∧ pc < 96) ∨ (96 ≤ pc ∧ pc < 116) ∨ 116 ≤ pc by omega) with h | h | h | h
  · exact List.all_eq_true.mp oc_60_0 pc (List.mem_range'_1.mpr (by omega))
  · exact List.all_eq_true.mp oc_60_1 pc (List.mem_range'_1.mpr (by omega))
  · exact List.all_eq_true.mp oc_60_2 pc (List.mem_range'_1.mpr (by omega))
  · exact okPc_big (Nat.le_trans (Nat.le_of_ble_eq_true (by decide +kernel)) h)
theorem oc_61_0 : (List.range' 0 48).all (okPc 61) = true := by decide +kernel
theorem oc_61_1 : (List.range' 48 48).all (okPc 61) = true := by decide +kernel
theorem oc_61 : ∀ pc, okPc 61 pc = true := by
  intro pc
  rcases (show (0 ≤ pc ∧ pc < 48) ∨ (48 ≤ pc ∧ pc < 96) ∨ 96 ≤ pc by omega) with h | h | h
  · exact List.all_eq_true.mp oc_61_0 pc (List.mem_range'_1.mpr (by omega))
  · exact List.all_eq_true.mp oc_61_1 pc (List.mem_range'_1.mpr (by omega))
  · exact okPc_big (Nat.le_trans (Nat.le_of_ble_eq_true (by decide +kernel)) h)
theorem oc_62_0 : (List.range' 0 48).all (okPc 62) = true := by decide +kernel
theorem oc_62_1 : (List.range' 48 48).all (okPc 62) = true := by decide +kernel
theorem oc_62_2 : (List.range' 96 35).all (okPc 62) = true := by decide +kernel
theorem oc_62 : ∀ pc, okPc 62 pc = true := by
  intro pc
  rcases (show (0 ≤ pc ∧ pc < 48) ∨ (48 ≤ pc ∧ pc < 96) ∨ (96 ≤ pc ∧ pc < 131) ∨ 131 ≤ pc by omega) with h | h | h | h
  · exact List.all_eq_true.mp oc_62_0 pc (List.mem_range'_1.mpr (by omega))
  · exact List.all_eq_true.mp oc_62_1 pc (List.mem_range'_1.mpr (by omega))
  · exact List.all_eq_true.mp oc_62_2 pc (List.mem_range'_1.mpr (by omega))
  · exact okPc_big (Nat.le_trans (Nat.le_of_ble_eq_true (by decide +kernel)) h)
theorem oc_63_0 : (List.range' 0 26).all (okPc 63) = true := by decide +kernel
theorem oc_63 : ∀ pc, okPc 63 pc = true := by
  intro pc
  rcases (show (0 ≤ pc ∧ pc < 26) ∨ 26 ≤ pc by omega) with h | h
  · exact List.all_eq_true.mp oc_63_0 pc (List.mem_range'_1.mpr (by omega))
  · exact okPc_big (Nat.le_trans (Nat.le_of_ble_eq_true (by decide +kernel)) h)
theorem oc_64_0 : (List.range' 0 48).all (okPc 64) = true := by decide +kernel
theorem oc_64_1 : (List.range' 48 3).all (okPc 64) = true := by decide +kernel
theorem oc_64 : ∀ pc, okPc 64 pc = true := by
  intro pc
  rcases (show (0 ≤ pc ∧ pc < 48) ∨ (48 ≤ pc ∧ pc < 51) ∨ 51 ≤ pc by omega) with h | h | h
  · exact List.all_eq_true.mp oc_64_0 pc (List.mem_range'_1.mpr (by omega))
  · exact List.all_eq_true.mp oc_64_1 pc (List.mem_range'_1.mpr (by omega))
  · exact okPc_big (Nat.le_trans (Nat.le_of_ble_eq_true (by decide +kernel)) h)
theorem oc_65_0 : (List.range' 0 45).all (okPc 65) = true := by decide +kernel
theorem oc_65 : ∀ pc, okPc 65 pc = true := by
  intro pc
  rcases (show (0 ≤ pc ∧ pc < 45) ∨ 45 ≤ pc by omega) with h | h
  · exact List.all_eq_true.mp oc_65_0 pc (List.mem_range'_1.mpr (by omega))
  · exact okPc_big (Nat.le_trans (Nat.le_of_ble_eq_true (by decide +kernel)) h)
theorem oc_66_0 : (List.range' 0 48).all (okPc 66) = true := by decide +kernel
theorem oc_66 : ∀ pc, okPc 66 pc = true := by
  intro pc
  rcases (show (0 ≤ pc ∧ pc < 48) ∨ 48 ≤ pc by omega) with h | h
  · exact List.all_eq_true.mp oc_66_0 pc (List.mem_range'_1.mpr (by omega))
  · exact okPc_big (Nat.le_trans (Nat.le_of_ble_eq_true (by decide +kernel)) h)
theorem oc_67_0 : (List.range' 0 48).all (okPc 67) = true := by decide +kernel
theorem oc_67_1 : (List.range' 48 3).all (okPc 67) = true := by decide +kernel
theorem oc_67 : ∀ pc, okPc 67 pc = true := by
  intro pc
  rcases (show (0 ≤ pc ∧ pc < 48) ∨ (48 ≤ pc ∧ pc < 51) ∨ 51 ≤ pc by omega) with h | h | h
  · exact List.all_eq_true.mp oc_67_0 pc (List.mem_range'_1.mpr (by omega))
  · exact List.all_eq_true.mp oc_67_1 pc (List.mem_range'_1.mpr (by omega))
  · exact okPc_big (Nat.le_trans (Nat.le_of_ble_eq_true (by decide +kernel)) h)
theorem oc_68_0 : (List.range' 0 42).all (okPc 68) = true := by decide +kernel
theorem oc_68 : ∀ pc, okPc 68 pc = true := by
  intro pc
  rcases (show (0 ≤ pc ∧ pc < 42) ∨ 42 ≤ pc by omega) with h | h
  · exact List.all_eq_true.mp oc_68_0 pc (List.mem_range'_1.mpr (by omega))
  · exact okPc_big (Nat.le_trans (Nat.le_of_ble_eq_true (by decide +kernel)) h)
theorem oc_69_0 : (List.range' 0 10).all (okPc 69) = true := by decide +kernel
theorem oc_69 : ∀ pc, okPc 69 pc = true := by
  intro pc
  rcases (show (0 ≤ pc ∧ pc < 10) ∨ 10 ≤ pc by omega) with h | h
  · exact List.all_eq_true.mp oc_69_0 pc (List.mem_range'_1.mpr (by omega))
  · exact okPc_big (Nat.le_trans (Nat.le_of_ble_eq_true (by decide +kernel)) h)
theorem oc_70_0 : (List.range' 0 9).all (okPc 70) = true := by decide +kernel
theorem oc_70 : ∀ pc, okPc 70 pc = true := by
  intro pc
  rcases (show (0 ≤ pc ∧ pc < 9) ∨ 9 ≤ pc by omega) with h | h
  · exact List.all_eq_true.mp oc_70_0 pc (List.mem_range'_1.mpr (by omega))
  · exact okPc_big (Nat.le_trans (Nat.le_of_ble_eq_true (by decide +kernel)) h)
theorem oc_71_0 : (List.range' 0 8).all (okPc 71) = true := by decide +kernel
theorem oc_71 : ∀ pc, okPc 71 pc = true := by
  intro pc
  rcases (show (0 ≤ pc ∧ pc < 8) ∨ 8 ≤ pc by omega) with h | h
  · exact List.all_eq_true.mp oc_71_0 pc (List.mem_range'_1.mpr (by omega))
  · exact okPc_big (Nat.le_trans (Nat.le_of_ble_eq_true (by decide +kernel)) h)
theorem oc_72_0 : (List.range' 0 27).all (okPc 72) = true := by decide +kernel
theorem oc_72 : ∀ pc, okPc 72 pc = true := by
  intro pc
  rcases (show (0 ≤ pc ∧ pc < 27) ∨ 27 ≤ pc by omega) with h | h
  · exact List.all_eq_true.mp oc_72_0 pc (List.mem_range'_1.mpr (by omega))
  · exact okPc_big (Nat.le_trans (Nat.le_of_ble_eq_true (by decide +kernel)) h)
theorem oc_73_0 : (List.range' 0 23).all (okPc 73) = true := by decide +kernel
theorem oc_73 : ∀ pc, okPc 73 pc = true := by
  intro pc
  rcases (show (0 ≤ pc ∧ pc < 23) ∨ 23 ≤ pc by omega) with h | h
  · exact List.all_eq_true.mp oc_73_0 pc (List.mem_range'_1.mpr (by omega))
  · exact okPc_big (Nat.le_trans (Nat.le_of_ble_eq_true (by decide +kernel)) h)
theorem oc_74_0 : (List.range' 0 17).all (okPc 74) = true := by decide +kernel
theorem oc_74 : ∀ pc, okPc 74 pc = true := by
  intro pc
  rcases (show (0 ≤ pc ∧ pc < 17) ∨ 17 ≤ pc by omega) with h | h
  · exact List.all_eq_true.mp oc_74_0 pc (List.mem_range'_1.mpr (by omega))
  · exact okPc_big (Nat.le_trans (Nat.le_of_ble_eq_true (by decide +kernel)) h)
theorem oc_75_0 : (List.range' 0 16).all (okPc 75) = true := by decide +kernel
theorem oc_75 : ∀ pc, okPc 75 pc = true := by
  intro pc
  rcases (show (0 ≤ pc ∧ pc < 16) ∨ 16 ≤ pc by omega) with h | h
  · exact List.all_eq_true.mp oc_75_0 pc (List.mem_range'_1.mpr (by omega))
  · exact okPc_big (Nat.le_trans (Nat.le_of_ble_eq_true (by decide +kernel)) h)
theorem oc_76_0 : (List.range' 0 18).all (okPc 76) = true := by decide +kernel
theorem oc_76 : ∀ pc, okPc 76 pc = true := by
  intro pc
  rcases (show (0 ≤ pc ∧ pc < 18) ∨ 18 ≤ pc by omega) with h | h
  · exact List.all_eq_true.mp oc_76_0 pc (List.mem_range'_1.mpr (by omega))
  · exact okPc_big (Nat.le_trans (Nat.le_of_ble_eq_true (by decide +kernel)) h)
theorem oc_77_0 : (List.range' 0 27).all (okPc 77) = true := by decide +kernel
theorem oc_77 : ∀ pc, okPc 77 pc = true := by
  intro pc
  rcases (show (0 ≤ pc ∧ pc < 27) ∨ 27 ≤ pc by omega) with h | h
  · exact List.all_eq_true.mp oc_77_0 pc (List.mem_range'_1.mpr (by omega))
  · exact okPc_big (Nat.le_trans (Nat.le_of_ble_eq_true (by decide +kernel)) h)
theorem oc_78_0 : (List.range' 0 17).all (okPc 78) = true := by decide +kernel
theorem oc_78 : ∀ pc, okPc 78 pc = true := by
  intro pc
  rcases (show (0 ≤ pc ∧ pc < 17) ∨ 17 ≤ pc by omega) with h | h
  · exact List.all_eq_true.mp oc_78_0 pc (List.mem_range'_1.mpr (by omega))
  · exact okPc_big (Nat.le_trans (Nat.le_of_ble_eq_true (by decide +kernel)) h)
theorem oc_79_0 : (List.range' 0 27).all (okPc 79) = true := by decide +kernel
theorem oc_79 : ∀ pc, okPc 79 pc = true := by
  intro pc
  rcases (show (0 ≤ pc ∧ pc < 27) ∨ 27 ≤ pc by omega) with h | h
  · exact List.all_eq_true.mp oc_79_0 pc (List.mem_range'_1.mpr (by omega))
  · exact okPc_big (Nat.le_trans (Nat.le_of_ble_eq_true (by decide +kernel)) h)
theorem oc_80_0 : (List.range' 0 29).all (okPc 80) = true := by decide +kernel
theorem oc_80 : ∀ pc, okPc 80 pc = true := by
  intro pc
  rcases (show (0 ≤ pc ∧ pc < 29) ∨ 29 ≤ pc by omega) with h | h
  · exact List.all_eq_true.mp oc_80_0 pc (List.mem_range'_1.mpr (by omega))
  · exact okPc_big (Nat.le_trans (Nat.le_of_ble_eq_true (by decide +kernel)) h)
theorem oc_81_0 : (List.range' 0 48).all (okPc 81) = true := by decide +kernel
theorem oc_81_1 : (List.range' 48 48).all (okPc 81) = true := by decide +kernel
theorem oc_81_2 : (List.range' 96 48).all (okPc 81) = true := by decide +kernel
theorem oc_81_3 : (List.range' 144 10).all (okPc 81) = true := by decide +kernel
theorem oc_81 : ∀ pc, okPc 81 pc = true := by
  intro pc
  rcases (show (0 ≤ pc ∧ pc < 48) ∨ (48 ≤ pc ∧ pc < 96) ∨ (96 ≤ pc ∧ pc < 144) ∨ (144 ≤ pc ∧ pc < 154) ∨ 154 ≤ pc by omega) with h | h | h | h | h
  · exact List.all_eq_true.mp oc_81_0 pc (List.mem_range'_1.mpr (by omega))
  · exact List.all_eq_true.mp oc_81_1 pc (List.mem_range'_1.mpr (by omega))
  · exact List.all_eq_true.mp oc_81_2 pc (List.mem_range'_1.mpr (by omega))
  · exact List.all_eq_true.mp oc_81_3 pc (List.mem_range'_1.mpr (by omega))
  · exact okPc_big (Nat.le_trans (Nat.le_of_ble_eq_true (by decide +kernel)) h)
theorem oc_82_0 : (List.range' 0 38).all (okPc 82) = true := by decide +kernel
theorem oc_82 : ∀ pc, okPc 82 pc = true := by
  intro pc
  rcases (show (0 ≤ pc ∧ pc < 38) ∨ 38 ≤ pc by omega) with h | h
  · exact List.all_eq_true.mp oc_82_0 pc (List.mem_range'_1.mpr (by omega))
  · exact okPc_big (Nat.le_trans (Nat.le_of_ble_eq_true (by decide +kernel)) h)
theorem oc_83_0 : (List.range' 0 48).all (okPc 83) = true := by decide +kernel
theorem oc_83_1 : (List.range' 48 45).all (okPc 83) = true := by decide +kernel
theorem oc_83 : ∀ pc, okPc 83 pc = true := by
  intro pc
  rcases (show (0 ≤ pc ∧ pc < 48) ∨ (48 ≤ pc ∧ pc < 93) ∨ 93 ≤ pc by omega) with h | h | h
  · exact List.all_eq_true.mp oc_83_0 pc (List.mem_range'_1.mpr (by omega))
  · exact List.all_eq_true.mp oc_83_1 pc (List.mem_range'_1.mpr (by omega))
  · exact okPc_big (Nat.le_trans (Nat.le_of_ble_eq_true (by decide +kernel)) h)
theorem oc_84_0 : (List.range' 0 48).all (okPc 84) = true := by decide +kernel
theorem oc_84_1 : (List.range' 48 48).all (okPc 84) = true := by decide +kernel
theorem oc_84_2 : (List.range' 96 10).all (okPc 84) = true := by decide +kernel
theorem oc_84 : ∀ pc, okPc 84 pc = true := by
  intro pc
  rcases (show (0 ≤ pc ∧ pc < 48) ∨ (48 ≤ pc ∧ pc < 96) ∨ (96 ≤ pc ∧ pc < 106) ∨ 106 ≤ pc by omega) with h | h | h | h
  · exact List.all_eq_true.mp oc_84_0 pc (List.mem_range'_1.mpr (by omega))
  · exact List.all_eq_true.mp oc_84_1 pc (List.mem_range'_1.mpr (by omega))
  · exact List.all_eq_true.mp oc_84_2 pc (List.mem_range'_1.mpr (by omega))
  · exact okPc_big (Nat.le_trans (Nat.le_of_ble_eq_true (by decide +kernel)) h)
theorem oc_85_0 : (List.range' 0 31).all (okPc 85) = true := by decide +kernel
theorem oc_85 : ∀ pc, okPc 85 pc = true := by
  intro pc
  rcases (show (0 ≤ pc ∧ pc < 31) ∨ 31 ≤ pc by omega) with h | h
  · exact List.all_eq_true.mp oc_85_0 pc (List.mem_range'_1.mpr (by omega))
  · exact okPc_big (Nat.le_trans (Nat.le_of_ble_eq_true (by decide +kernel)) h)
theorem oc_86_0 : (List.range' 0 44).all (okPc 86) = true := by decide +kernel
theorem oc_86 : ∀ pc, okPc 86 pc = true := by
  intro pc
  rcases (show (0 ≤ pc ∧ pc < 44) ∨ 44 ≤ pc by omega) with h | h
  · exact List.all_eq_true.mp oc_86_0 pc (List.mem_range'_1.mpr (by omega))
  · exact okPc_big (Nat.le_trans (Nat.le_of_ble_eq_true (by decide +kernel)) h)
theorem oc_87_0 : (List.range' 0 48).all (okPc 87) = true := by decide +kernel
theorem oc_87_1 : (List.range' 48 48).all (okPc 87) = true := by decide +kernel
theorem oc_87_2 : (List.range' 96 13).all (okPc 87) = true := by decide +kernel
theorem oc_87 : ∀ pc, okPc 87 pc = true := by
  intro pc
  rcases (show (0 ≤ pc ∧ pc < 48) ∨ (48 ≤ pc ∧ pc < 96) ∨ (96 ≤ pc ∧ pc < 109) ∨ 109 ≤ pc by omega) with h | h | h | h
  · exact List.all_eq_true.mp oc_87_0 pc (List.mem_range'_1.mpr (by omega))
  · exact List.all_eq_true.mp oc_87_1 pc (List.mem_range'_1.mpr (by omega))
  · exact List.all_eq_true.mp oc_87_2 pc (List.mem_range'_1.mpr (by omega))
  · exact okPc_big (Nat.le_trans (Nat.le_of_ble_eq_true (by decide +kernel)) h)
