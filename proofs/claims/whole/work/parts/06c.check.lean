theorem oc_88_0 : (List.range' 0 48).all (okPc 88) = true := by decide +kernel
theorem oc_88_1 : (List.range' 48 42).all (okPc 88) = true := by decide +kernel
theorem oc_88 : ∀ pc, okPc 88 pc = true := by
  intro pc
  rcases (show (0 ≤ pc ∧ pc < 48) ∨ (48 ≤ pc ∧ pc < 90) ∨ 90 ≤ pc by omega) with h | h | h
  · exact List.all_eq_true.mp oc_88_0 pc (List.mem_range'_1.mpr (by omega))
  · exact List.all_eq_true.mp oc_88_1 pc (List.mem_range'_1.mpr (by omega))
  · exact okPc_big (Nat.le_trans (Nat.le_of_ble_eq_true (by decide +kernel)) h)
theorem oc_89_0 : (List.range' 0 19).all (okPc 89) = true := by decide +kernel
theorem oc_89 : ∀ pc, okPc 89 pc = true := by
  intro pc
  rcases (show (0 ≤ pc ∧ pc < 19) ∨ 19 ≤ pc by omega) with h | h
  · exact List.all_eq_true.mp oc_89_0 pc (List.mem_range'_1.mpr (by omega))
  · exact okPc_big (Nat.le_trans (Nat.le_of_ble_eq_true (by decide +kernel)) h)
theorem oc_90_0 : (List.range' 0 5).all (okPc 90) = true := by decide +kernel
theorem oc_90 : ∀ pc, okPc 90 pc = true := by
  intro pc
  rcases (show (0 ≤ pc ∧ pc < 5) ∨ 5 ≤ pc by omega) with h | h
  · exact List.all_eq_true.mp oc_90_0 pc (List.mem_range'_1.mpr (by omega))
  · exact okPc_big (Nat.le_trans (Nat.le_of_ble_eq_true (by decide +kernel)) h)
theorem oc_91_0 : (List.range' 0 11).all (okPc 91) = true := by decide +kernel
theorem oc_91 : ∀ pc, okPc 91 pc = true := by
  intro pc
  rcases (show (0 ≤ pc ∧ pc < 11) ∨ 11 ≤ pc by omega) with h | h
  · exact List.all_eq_true.mp oc_91_0 pc (List.mem_range'_1.mpr (by omega))
  · exact okPc_big (Nat.le_trans (Nat.le_of_ble_eq_true (by decide +kernel)) h)
theorem oc_92_0 : (List.range' 0 48).all (okPc 92) = true := by decide +kernel
theorem oc_92_1 : (List.range' 48 21).all (okPc 92) = true := by decide +kernel
theorem oc_92 : ∀ pc, okPc 92 pc = true := by
  intro pc
  rcases (show (0 ≤ pc ∧ pc < 48) ∨ (48 ≤ pc ∧ pc < 69) ∨ 69 ≤ pc by omega) with h | h | h
  · exact List.all_eq_true.mp oc_92_0 pc (List.mem_range'_1.mpr (by omega))
  · exact List.all_eq_true.mp oc_92_1 pc (List.mem_range'_1.mpr (by omega))
  · exact okPc_big (Nat.le_trans (Nat.le_of_ble_eq_true (by decide +kernel)) h)
theorem oc_93_0 : (List.range' 0 22).all (okPc 93) = true := by decide +kernel
theorem oc_93 : ∀ pc, okPc 93 pc = true := by
  intro pc
  rcases (show (0 ≤ pc ∧ pc < 22) ∨ 22 ≤ pc by omega) with h | h
  · exact List.all_eq_true.mp oc_93_0 pc (List.mem_range'_1.mpr (by omega))
  · exact okPc_big (Nat.le_trans (Nat.le_of_ble_eq_true (by decide +kernel)) h)
theorem oc_94_0 : (List.range' 0 48).all (okPc 94) = true := by decide +kernel
theorem oc_94_1 : (List.range' 48 5).all (okPc 94) = true := by decide +kernel
theorem oc_94 : ∀ pc, okPc 94 pc = true := by
  intro pc
  rcases (show (0 ≤ pc ∧ pc < 48) ∨ (48 ≤ pc ∧ pc < 53) ∨ 53 ≤ pc by omega) with h | h | h
  · exact List.all_eq_true.mp oc_94_0 pc (List.mem_range'_1.mpr (by omega))
  · exact List.all_eq_true.mp oc_94_1 pc (List.mem_range'_1.mpr (by omega))
  · exact okPc_big (Nat.le_trans (Nat.le_of_ble_eq_true (by decide +kernel)) h)
theorem oc_95_0 : (List.range' 0 40).all (okPc 95) = true := by decide +kernel
theorem oc_95 : ∀ pc, okPc 95 pc = true := by
  intro pc
  rcases (show (0 ≤ pc ∧ pc < 40) ∨ 40 ≤ pc by omega) with h | h
  · exact List.all_eq_true.mp oc_95_0 pc (List.mem_range'_1.mpr (by omega))
  · exact okPc_big (Nat.le_trans (Nat.le_of_ble_eq_true (by decide +kernel)) h)
theorem oc_96_0 : (List.range' 0 48).all (okPc 96) = true := by decide +kernel
theorem oc_96_1 : (List.range' 48 48).all (okPc 96) = true := by decide +kernel
theorem oc_96_2 : (List.range' 96 9).all (okPc 96) = true := by decide +kernel
theorem oc_96 : ∀ pc, okPc 96 pc = true := by
  intro pc
  rcases (show (0 ≤ pc ∧ pc < 48) ∨ (48 ≤ pc ∧ pc < 96) ∨ (96 ≤ pc ∧ pc < 105) ∨ 105 ≤ pc by omega) with h | h | h | h
  · exact List.all_eq_true.mp oc_96_0 pc (List.mem_range'_1.mpr (by omega))
  · exact List.all_eq_true.mp oc_96_1 pc (List.mem_range'_1.mpr (by omega))
  · exact List.all_eq_true.mp oc_96_2 pc (List.mem_range'_1.mpr (by omega))
  · exact okPc_big (Nat.le_trans (Nat.le_of_ble_eq_true (by decide +kernel)) h)
theorem oc_97_0 : (List.range' 0 30).all (okPc 97) = true := by decide +kernel
theorem oc_97 : ∀ pc, okPc 97 pc = true := by
  intro pc
  rcases (show (0 ≤ pc ∧ pc < 30) ∨ 30 ≤ pc by omega) with h | h
  · exact List.all_eq_true.mp oc_97_0 pc (List.mem_range'_1.mpr (by omega))
  · exact okPc_big (Nat.le_trans (Nat.le_of_ble_eq_true (by decide +kernel)) h)
theorem oc_98_0 : (List.range' 0 48).all (okPc 98) = true := by decide +kernel
theorem oc_98_1 : (List.range' 48 14).all (okPc 98) = true := by decide +kernel
theorem oc_98 : ∀ pc, okPc 98 pc = true := by
  intro pc
  rcases (show (0 ≤ pc ∧ pc < 48) ∨ (48 ≤ pc ∧ pc < 62) ∨ 62 ≤ pc by omega) with h | h | h
  · exact List.all_eq_true.mp oc_98_0 pc (List.mem_range'_1.mpr (by omega))
  · exact List.all_eq_true.mp oc_98_1 pc (List.mem_range'_1.mpr (by omega))
  · exact okPc_big (Nat.le_trans (Nat.le_of_ble_eq_true (by decide +kernel)) h)
theorem oc_99_0 : (List.range' 0 48).all (okPc 99) = true := by decide +kernel
theorem oc_99_1 : (List.range' 48 46).all (okPc 99) = true := by decide +kernel
theorem oc_99 : ∀ pc, okPc 99 pc = true := by
  intro pc
  rcases (show (0 ≤ pc ∧ pc < 48) ∨ (48 ≤ pc ∧ pc < 94) ∨ 94 ≤ pc by omega) with h | h | h
  · exact List.all_eq_true.mp oc_99_0 pc (List.mem_range'_1.mpr (by omega))
  · exact List.all_eq_true.mp oc_99_1 pc (List.mem_range'_1.mpr (by omega))
  · exact okPc_big (Nat.le_trans (Nat.le_of_ble_eq_true (by decide +kernel)) h)
theorem oc_100_0 : (List.range' 0 48).all (okPc 100) = true := by decide +kernel
theorem oc_100_1 : (List.range' 48 48).all (okPc 100) = true := by decide +kernel
theorem oc_100_2 : (List.range' 96 48).all (okPc 100) = true := by decide +kernel
theorem oc_100_3 : (List.range' 144 48).all (okPc 100) = true := by decide +kernel
theorem oc_100_4 : (List.range' 192 23).all (okPc 100) = true := by decide +kernel
theorem oc_100 : ∀ pc, okPc 100 pc = true := by
  intro pc
  rcases (show (0 ≤ pc ∧ pc < 48) ∨ (48 ≤ pc ∧ pc < 96) ∨ (96 ≤ pc ∧ pc < 144) ∨ (144 ≤ pc ∧ pc < 192) ∨ (192 ≤ pc ∧ pc < 215) ∨ 215 ≤ pc by omega) with h | h | h | h | h | h
  · exact List.all_eq_true.mp oc_100_0 pc (List.mem_range'_1.mpr (by omega))
  · exact List.all_eq_true.mp oc_100_1 pc (List.mem_range'_1.mpr (by omega))
  · exact List.all_eq_true.mp oc_100_2 pc (List.mem_range'_1.mpr (by omega))
  · exact List.all_eq_true.mp oc_100_3 pc (List.mem_range'_1.mpr (by omega))
  · exact List.all_eq_true.mp oc_100_4 pc (List.mem_range'_1.mpr (by omega))
  · exact okPc_big (Nat.le_trans (Nat.le_of_ble_eq_true (by decide +kernel)) h)
theorem oc_101_0 : (List.range' 0 48).all (okPc 101) = true := by decide +kernel
theorem oc_101_1 : (List.range' 48 48).all (okPc 101) = true := by decide +kernel
theorem oc_101_2 : (List.range' 96 48).all (okPc 101) = true := by decide +kernel
theorem oc_101_3 : (List.range' 144 17).all (okPc 101) = true := by decide +kernel
theorem oc_101 : ∀ pc, okPc 101 pc = true := by
  intro pc
  rcases (show (0 ≤ pc ∧ pc < 48) ∨ (48 ≤ pc ∧ pc < 96) ∨ (96 ≤ pc ∧ pc < 144) ∨ (144 ≤ pc ∧ pc < 161) ∨ 161 ≤ pc by omega) with h | h | h | h | h
  · exact List.all_eq_true.mp oc_101_0 pc (List.mem_range'_1.mpr (by omega))
  · exact List.all_eq_true.mp oc_101_1 pc (List.mem_range'_1.mpr (by omega))
  · exact List.all_eq_true.mp oc_101_2 pc (List.mem_range'_1.mpr (by omega))
  · exact List.all_eq_true.mp oc_101_3 pc (List.mem_range'_1.mpr (by omega))
  · exact okPc_big (Nat.le_trans (Nat.le_of_ble_eq_true (by decide +kernel)) h)
theorem oc_102_0 : (List.range' 0 48).all (okPc 102) = true := by decide +kernel
theorem oc_102_1 : (List.range' 48 26).all (okPc 102) = true := by decide +kernel
theorem oc_102 : ∀ pc, okPc 102 pc = true := by
  intro pc
  rcases (show (0 ≤ pc ∧ pc < 48) ∨ (48 ≤ pc ∧ pc < 74) ∨ 74 ≤ pc by omega) with h | h | h
  · exact List.all_eq_true.mp oc_102_0 pc (List.mem_range'_1.mpr (by omega))
  · exact List.all_eq_true.mp oc_102_1 pc (List.mem_range'_1.mpr (by omega))
  · exact okPc_big (Nat.le_trans (Nat.le_of_ble_eq_true (by decide +kernel)) h)
theorem oc_103_0 : (List.range' 0 21).all (okPc 103) = true := by decide +kernel
theorem oc_103 : ∀ pc, okPc 103 pc = true := by
  intro pc
  rcases (show (0 ≤ pc ∧ pc < 21) ∨ 21 ≤ pc by omega) with h | h
  · exact List.all_eq_true.mp oc_103_0 pc (List.mem_range'_1.mpr (by omega))
  · exact okPc_big (Nat.le_trans (Nat.le_of_ble_eq_true (by decide +kernel)) h)
theorem oc_104_0 : (List.range' 0 48).all (okPc 104) = true := by decide +kernel
theorem oc_104_1 : (List.range' 48 48).all (okPc 104) = true := by decide +kernel
theorem oc_104_2 : (List.range' 96 48).all (okPc 104) = true := by decide +kernel
theorem oc_104_3 : (List.range' 144 42).all (okPc 104) = true := by decide +kernel
theorem oc_104 : ∀ pc, okPc 104 pc = true := by
  intro pc
  rcases (show (0 ≤ pc ∧ pc < 48) ∨ (48 ≤ pc ∧ pc < 96) ∨ (96 ≤ pc ∧ pc < 144) ∨ (144 ≤ pc ∧ pc < 186) ∨ 186 ≤ pc by omega) with h | h | h | h | h
  · exact List.all_eq_true.mp oc_104_0 pc (List.mem_range'_1.mpr (by omega))
  · exact List.all_eq_true.mp oc_104_1 pc (List.mem_range'_1.mpr (by omega))
  · exact List.all_eq_true.mp oc_104_2 pc (List.mem_range'_1.mpr (by omega))
  · exact List.all_eq_true.mp oc_104_3 pc (List.mem_range'_1.mpr (by omega))
  · exact okPc_big (Nat.le_trans (Nat.le_of_ble_eq_true (by decide +kernel)) h)
theorem oc_105_0 : (List.range' 0 48).all (okPc 105) = true := by decide +kernel
theorem oc_105_1 : (List.range' 48 37).all (okPc 105) = true := by decide +kernel
theorem oc_105 : ∀ pc, okPc 105 pc = true := by
  intro pc
  rcases (show (0 ≤ pc ∧ pc < 48) ∨ (48 ≤ pc ∧ pc < 85) ∨ 85 ≤ pc by omega) with h | h | h
  · exact List.all_eq_true.mp oc_105_0 pc (List.mem_range'_1.mpr (by omega))
  · exact List.all_eq_true.mp oc_105_1 pc (List.mem_range'_1.mpr (by omega))
  · exact okPc_big (Nat.le_trans (Nat.le_of_ble_eq_true (by decide +kernel)) h)
theorem oc_106_0 : (List.range' 0 48).all (okPc 106) = true := by decide +kernel
theorem oc_106_1 : (List.range' 48 23).all (okPc 106) = true := by decide +kernel
theorem oc_106 : ∀ pc, okPc 106 pc = true := by
  intro pc
  rcases (show (0 ≤ pc ∧ pc < 48) ∨ (48 ≤ pc ∧ pc < 71) ∨ 71 ≤ pc by omega) with h | h | h
  · exact List.all_eq_true.mp oc_106_0 pc (List.mem_range'_1.mpr (by omega))
  · exact List.all_eq_true.mp oc_106_1 pc (List.mem_range'_1.mpr (by omega))
  · exact okPc_big (Nat.le_trans (Nat.le_of_ble_eq_true (by decide +kernel)) h)
theorem oc_107_0 : (List.range' 0 21).all (okPc 107) = true := by decide +kernel
theorem oc_107 : ∀ pc, okPc 107 pc = true := by
  intro pc
  rcases (show (0 ≤ pc ∧ pc < 21) ∨ 21 ≤ pc by omega) with h | h
  · exact List.all_eq_true.mp oc_107_0 pc (List.mem_range'_1.mpr (by omega))
  · exact okPc_big (Nat.le_trans (Nat.le_of_ble_eq_true (by decide +kernel)) h)
theorem oc_108_0 : (List.range' 0 48).all (okPc 108) = true := by decide +kernel
theorem oc_108_1 : (List.range' 48 48).all (okPc 108) = true := by decide +kernel
theorem oc_108_2 : (List.range' 96 4).all (okPc 108) = true := by decide +kernel
theorem oc_108 : ∀ pc, okPc 108 pc = true := by
  intro pc
  rcases (show (0 ≤ pc ∧ pc < 48) ∨ (48 ≤ pc ∧ pc < 96) ∨ (96 ≤ pc ∧ pc < 100) ∨ 100 ≤ pc by omega) with h | h | h | h
  · exact List.all_eq_true.mp oc_108_0 pc (List.mem_range'_1.mpr (by omega))
  · exact List.all_eq_true.mp oc_108_1 pc (List.mem_range'_1.mpr (by omega))
  · exact List.all_eq_true.mp oc_108_2 pc (List.mem_range'_1.mpr (by omega))
  · exact okPc_big (Nat.le_trans (Nat.le_of_ble_eq_true (by decide +kernel)) h)
theorem oc_109_0 : (List.range' 0 29).all (okPc 109) = true := by decide +kernel
theorem oc_109 : ∀ pc, okPc 109 pc = true := by
  intro pc
  rcases (show (0 ≤ pc ∧ pc < 29) ∨ 29 ≤ pc by omega) with h | h
  · exact List.all_eq_true.mp oc_109_0 pc (List.mem_range'_1.mpr (by omega))
  · exact okPc_big (Nat.le_trans (Nat.le_of_ble_eq_true (by decide +kernel)) h)
theorem oc_110_0 : (List.range' 0 26).all (okPc 110) = true := by decide +kernel
theorem oc_110 : ∀ pc, okPc 110 pc = true := by
  intro pc
  rcases (show (0 ≤ pc ∧ pc < 26) ∨ 26 ≤ pc by omega) with h | h
  · exact List.all_eq_true.mp oc_110_0 pc (List.mem_range'_1.mpr (by omega))
  · exact okPc_big (Nat.le_trans (Nat.le_of_ble_eq_true (by decide +kernel)) h)
theorem oc_111_0 : (List.range' 0 11).all (okPc 111) = true := by decide +kernel
theorem oc_111 : ∀ pc, okPc 111 pc = true := by
  intro pc
  rcases (show (0 ≤ pc ∧ pc < 11) ∨ 11 ≤ pc by omega) with h | h
  · exact List.all_eq_true.mp oc_111_0 pc (List.mem_range'_1.mpr (by omega))
  · exact okPc_big (Nat.le_trans (Nat.le_of_ble_eq_true (by decide +kernel)) h)
theorem oc_112_0 : (List.range' 0 26).all (okPc 112) = true := by decide +kernel
theorem oc_112 : ∀ pc, okPc 112 pc = true := by
  intro pc
  rcases (show (0 ≤ pc ∧ pc < 26) ∨ 26 ≤ pc by omega) with h | h
  · exact List.all_eq_true.mp oc_112_0 pc (List.mem_range'_1.mpr (by omega))
  · exact okPc_big (Nat.le_trans (Nat.le_of_ble_eq_true (by decide +kernel)) h)
theorem oc_113_0 : (List.range' 0 48).all (okPc 113) = true := by decide +kernel
theorem oc_113_1 : (List.range' 48 48).all (okPc 113) = true := by decide +kernel
theorem oc_113_2 : (List.range' 96 48).all (okPc 113) = true := by decide +kernel
theorem oc_113_3 : (List.range' 144 46).all (okPc 113) = true := by decide +kernel
theorem oc_113 : ∀ pc, okPc 113 pc = true := by
  intro pc
  rcases (show (0 ≤ pc ∧ pc < 48) ∨ (48 ≤ pc ∧ pc < 96) ∨ (96 ≤ pc ∧ pc < 144) ∨ (144 ≤ pc ∧ pc < 190) ∨ 190 ≤ pc by omega) with h | h | h | h | h
  · exact List.all_eq_true.mp oc_113_0 pc (List.mem_range'_1.mpr (by omega))
  · exact List.all_eq_true.mp oc_113_1 pc (List.mem_range'_1.mpr (by omega))
  · exact List.all_eq_true.mp oc_113_2 pc (List.mem_range'_1.mpr (by omega))
  · exact List.all_eq_true.mp oc_113_3 pc (List.mem_range'_1.mpr (by omega))
  · exact okPc_big (Nat.le_trans (Nat.le_of_ble_eq_true (by decide +kernel)) h)
theorem oc_114_0 : (List.range' 0 17).all (okPc 114) = true := by decide +kernel
theorem oc_114 : ∀ pc, okPc 114 pc = true := by
  intro pc
  rcases (show (0 ≤ pc ∧ pc < 17) ∨ 17 ≤ pc by omega) with h | h
  · exact List.all_eq_true.mp oc_114_0 pc (List.mem_range'_1.mpr (by omega))
  · exact okPc_big (Nat.le_trans (Nat.le_of_ble_eq_true (by decide +kernel)) h)
theorem oc_115_0 : (List.range' 0 48).all (okPc 115) = true := by decide +kernel
theorem oc_115_1 : (List.range' 48 48).all (okPc 115) = true := by decide +kernel
theorem oc_115_2 : (List.range' 96 48).all (okPc 115) = true := by decide +kernel
theorem oc_115_3 : (List.range' 144 5).all (okPc 115) = true := by decide +kernel
theorem oc_115 : ∀ pc, okPc 115 pc = true := by
  intro pc
  rcases (show (0 ≤ pc ∧ pc < 48) ∨ (48 ≤ pc ∧ pc < 96) ∨ (96 ≤ pc ∧ pc < 144) ∨ (144 ≤ pc ∧ pc < 149) ∨ 149 ≤ pc by omega) with h | h | h | h | h
  · exact List.all_eq_true.mp oc_115_0 pc (List.mem_range'_1.mpr (by omega))
  · exact List.all_eq_true.mp oc_115_1 pc (List.mem_range'_1.mpr (by omega))
  · exact List.all_eq_true.mp oc_115_2 pc (List.mem_range'_1.mpr (by omega))
  · exact List.all_eq_true.mp oc_115_3 pc (List.mem_range'_1.mpr (by omega))
  · exact okPc_big (Nat.le_trans (Nat.le_of_ble_eq_true (by decide +kernel)) h)
theorem oc_116_0 : (List.range' 0 48).all (okPc 116) = true := by decide +kernel
theorem oc_116_1 : (List.range' 48 48).all (okPc 116) = true := by decide +kernel
theorem oc_116_2 : (List.range' 96 48).all (okPc 116) = true := by decide +kernel
theorem oc_116_3 : (List.range' 144 7).all (okPc 116) = true := by decide +kernel
theorem oc_116 : ∀ pc, okPc 116 pc = true := by
  intro pc
  rcases (show (0 ≤ pc ∧ pc < 48) ∨ (48 ≤ pc ∧ pc < 96) ∨ (96 ≤ pc ∧ pc < 144) ∨ (144 ≤ pc ∧ pc < 151) ∨ 151 ≤ pc by omega) with h | h | h | h | h
  · exact List.all_eq_true.mp oc_116_0 pc (List.mem_range'_1.mpr (by omega))
  · exact List.all_eq_true.mp oc_116_1 pc (List.mem_range'_1.mpr (by omega))
  · exact List.all_eq_true.mp oc_116_2 pc (List.mem_range'_1.mpr (by omega))
  · exact List.all_eq_true.mp oc_116_3 pc (List.mem_range'_1.mpr (by omega))
  · exact okPc_big (Nat.le_trans (Nat.le_of_ble_eq_true (by decide +kernel)) h)
theorem oc_117_0 : (List.range' 0 48).all (okPc 117) = true := by decide +kernel
theorem oc_117_1 : (List.range' 48 48).all (okPc 117) = true := by decide +kernel
theorem oc_117_2 : (List.range' 96 5).all (okPc 117) = true := by decide +kernel
theorem oc_117 : ∀ pc, okPc 117 pc = true := by
  intro pc
  rcases (show (0 ≤ pc ∧ pc < 48) ∨ (48 ≤ pc ∧ pc < 96) ∨ (96 ≤ pc ∧ pc < 101) ∨ 101 ≤ pc by omega) with h | h | h | h
  · exact List.all_eq_true.mp oc_117_0 pc (List.mem_range'_1.mpr (by omega))
  · exact List.all_eq_true.mp oc_117_1 pc (List.mem_range'_1.mpr (by omega))
  · exact List.all_eq_true.mp oc_117_2 pc (List.mem_range'_1.mpr (by omega))
  · exact okPc_big (Nat.le_trans (Nat.le_of_ble_eq_true (by decide +kernel)) h)
theorem oc_118_0 : (List.range' 0 48).all (okPc 118) = true := by decide +kernel
theorem oc_118_1 : (List.range' 48 5).all (okPc 118) = true := by decide +kernel
theorem oc_118 : ∀ pc, okPc 118 pc = true := by
  intro pc
  rcases (show (0 ≤ pc ∧ pc < 48) ∨ (48 ≤ pc ∧ pc < 53) ∨ 53 ≤ pc by omega) with h | h | h
  · exact List.all_eq_true.mp oc_118_0 pc (List.mem_range'_1.mpr (by omega))
  · exact List.all_eq_true.mp oc_118_1 pc (List.mem_range'_1.mpr (by omega))
  · exact okPc_big (Nat.le_trans (Nat.le_of_ble_eq_true (by decide +kernel)) h)
theorem oc_119_0 : (List.range' 0 48).all (okPc 119) = true := by decide +kernel
theorem oc_119_1 : (List.range' 48 48).all (okPc 119) = true := by decide +kernel
theorem oc_119_2 : (List.range' 96 48).all (okPc 119) = true := by decide +kernel
theorem oc_119_3 : (List.range' 144 48).all (okPc 119) = true := by decide +kernel
theorem oc_119_4 : (List.range' 192 48).all (okPc 119) = true := by decide +kernel
theorem oc_119_5 : (List.range' 240 48).all (okPc 119) = true := by decide +kernel
theorem oc_119_6 : (List.range' 288 23).all (okPc 119) = true := by decide +kernel
theorem oc_119 : ∀ pc, okPc 119 pc = true := by
  intro pc
  rcases (show (0 ≤ pc ∧ pc < 48) ∨ (48 ≤ pc ∧ pc < 96) ∨ (96 ≤ pc ∧ pc < 144) ∨ (144 ≤ pc ∧ pc < 192) ∨ (192 ≤ pc ∧ pc < 240) ∨ (240 ≤ pc ∧ pc < 288) ∨ (288 ≤ pc ∧ pc < 311) ∨ 311 ≤ pc by omega) with h | h | h | h | h | h | h | h
  · exact List.all_eq_true.mp oc_119_0 pc (List.mem_range'_1.mpr (by omega))
  · exact List.all_eq_true.mp oc_119_1 pc (List.mem_range'_1.mpr (by omega))
  · exact List.all_eq_true.mp oc_119_2 pc (List.mem_range'_1.mpr (by omega))
  · exact List.all_eq_true.mp oc_119_3 pc (List.mem_range'_1.mpr (by omega))
  · exact List.all_eq_true.mp oc_119_4 pc (List.mem_range'_1.mpr (by omega))
  · exact List.all_eq_true.mp oc_119_5 pc (List.mem_range'_1.mpr (by omega))
  · exact List.all_eq_true.mp oc_119_6 pc (List.mem_range'_1.mpr (by omega))
  · exact okPc_big (Nat.le_trans (Nat.le_of_ble_eq_true (by decide +kernel)) h)
theorem oc_120_0 : (List.range' 0 36).all (okPc 120) = true := by decide +kernel
theorem oc_120 : ∀ pc, okPc 120 pc = true := by
  intro pc
  rcases (show (0 ≤ pc ∧ pc < 36) ∨ 36 ≤ pc by omega) with h | h
  · exact List.all_eq_true.mp oc_120_0 pc (List.mem_range'_1.mpr (by omega))
  · exact okPc_big (Nat.le_trans (Nat.le_of_ble_eq_true (by decide +kernel)) h)
theorem oc_121_0 : (List.range' 0 48).all (okPc 121) = true := by decide +kernel
theorem oc_121_1 : (List.range' 48 3).all (okPc 121) = true := by decide +kernel
theorem oc_121 : ∀ pc, okPc 121 pc = true := by
  intro pc
  rcases (show (0 ≤ pc ∧ pc < 48) ∨ (48 ≤ pc ∧ pc < 51) ∨ 51 ≤ pc by omega) with h | h | h
  · exact List.all_eq_true.mp oc_121_0 pc (List.mem_range'_1.mpr (by omega))
  · exact List.all_eq_true.mp oc_121_1 pc (List.mem_range'_1.mpr (by omega))
  · exact okPc_big (Nat.le_trans (Nat.le_of_ble_eq_true (by decide +kernel)) h)
theorem oc_122_0 : (List.range' 0 45).all (okPc 122) = true := by decide +kernel
theorem oc_122 : ∀ pc, okPc 122 pc = true := by
  intro pc
  rcases (show (0 ≤ pc ∧ pc < 45) ∨ 45 ≤ pc by omega) with h | h
  · exact List.all_eq_true.mp oc_122_0 pc (List.mem_range'_1.mpr (by omega))
  · exact okPc_big (Nat.le_trans (Nat.le_of_ble_eq_true (by decide +kernel)) h)
theorem oc_123_0 : (List.range' 0 44).all (okPc 123) = true := by decide +kernel
theorem oc_123 : ∀ pc, okPc 123 pc = true := by
  intro pc
  rcases (show (0 ≤ pc ∧ pc < 44) ∨ 44 ≤ pc by omega) with h | h
  · exact List.all_eq_true.mp oc_123_0 pc (List.mem_range'_1.mpr (by omega))
  · exact okPc_big (Nat.le_trans (Nat.le_of_ble_eq_true (by decide +kernel)) h)
theorem oc_124_0 : (List.range' 0 47).all (okPc 124) = true := by decide +kernel
theorem oc_124 : ∀ pc, okPc 124 pc = true := by
  intro pc
  rcases (show (0 ≤ pc ∧ pc < 47) ∨ 47 ≤ pc by omega) with h | h
  · exact List.all_eq_true.mp oc_124_0 pc (List.mem_range'_1.mpr (by omega))
  · exact okPc_big (Nat.le_trans (Nat.le_of_ble_eq_true (by decide +kernel)) h)
theorem oc_125_0 : (List.range' 0 44).all (okPc 125) = true := by decide +kernel
theorem oc_125 : ∀ pc, okPc 125 pc = true := by
  intro pc
  rcases (show (0 ≤ pc ∧ pc < 44) ∨ 44 ≤ pc by omega) with h | h
  · exact List.all_eq_true.mp oc_125_0 pc (List.mem_range'_1.mpr (by omega))
  · exact okPc_big (Nat.le_trans (Nat.le_of_ble_eq_true (by decide +kernel)) h)
theorem oc_126_0 : (List.range' 0 46).all (okPc 126) = true := by decide +kernel
theorem oc_126 : ∀ pc, okPc 126 pc = true := by
  intro pc
  rcases (show (0 ≤ pc ∧ pc < 46) ∨ 46 ≤ pc by omega) with h | h
  · exact List.all_eq_true.mp oc_126_0 pc (List.mem_range'_1.mpr (by omega))
  · exact okPc_big (Nat.le_trans (Nat.le_of_ble_eq_true (by decide +kernel)) h)
theorem oc_127_0 : (List.range' 0 36).all (okPc 127) = true := by decide +kernel
theorem oc_127 : ∀ pc, okPc 127 pc = true := by
  intro pc
  rcases (show (0 ≤ pc ∧ pc < 36) ∨ 36 ≤ pc by omega) with h | h
  · exact List.all_eq_true.mp oc_127_0 pc (List.mem_range'_1.mpr (by omega))
  · exact okPc_big (Nat.le_trans (Nat.le_of_ble_eq_true (by decide +kernel)) h)
theorem oc_128_0 : (List.range' 0 21).all (okPc 128) = true := by decide +kernel
theorem oc_128 : ∀ pc, okPc 128 pc = true := by
  intro pc
  rcases (show (0 ≤ pc ∧ pc < 21) ∨ 21 ≤ pc by omega) with h | h
  · exact List.all_eq_true.mp oc_128_0 pc (List.mem_range'_1.mpr (by omega))
  · exact okPc_big (Nat.le_trans (Nat.le_of_ble_eq_true (by decide +kernel)) h)
theorem oc_129_0 : (List.range' 0 5).all (okPc 129) = true := by decide +kernel
theorem oc_129 : ∀ pc, okPc 129 pc = true := by
  intro pc
  rcases (show (0 ≤ pc ∧ pc < 5) ∨ 5 ≤ pc by omega) with h | h
  · exact List.all_eq_true.mp oc_129_0 pc (List.mem_range'_1.mpr (by omega))
  · exact okPc_big (Nat.le_trans (Nat.le_of_ble_eq_true (by decide +kernel)) h)
theorem oc_130_0 : (List.range' 0 48).all (okPc 130) = true := by decide +kernel
theorem oc_130_1 : (List.range' 48 48).all (okPc 130) = true := by decide +kernel
theorem oc_130_2 : (List.range' 96 48).all (okPc 130) = true := by decide +kernel
theorem oc_130_3 : (List.range' 144 48).all (okPc 130) = true := by decide +kernel
theorem oc_130_4 : (List.range' 192 48).all (okPc 130) = true := by decide +kernel
theorem oc_130_5 : (List.range' 240 48).all (okPc 130) = true := by decide +kernel
theorem oc_130_6 : (List.range' 288 48).all (okPc 130) = true := by decide +kernel
theorem oc_130_7 : (List.range' 336 48).all (okPc 130) = true := by decide +kernel
theorem oc_130_8 : (List.range' 384 48).all (okPc 130) = true := by decide +kernel
theorem oc_130_9 : (List.range' 432 48).all (okPc 130) = true := by decide +kernel
theorem oc_130_10 : (List.range' 480 48).all (okPc 130) = true := by decide +kernel
theorem oc_130_11 : (List.range' 528 48).all (okPc 130) = true := by decide +kernel
theorem oc_130_12 : (List.range' 576 48).all (okPc 130) = true := by decide +kernel
theorem oc_130_13 : (List.range' 624 25).all (okPc 130) = true := by decide +kernel
theorem oc_130 : ∀ pc, okPc 130 pc = true := by
  intro pc
  rcases (show (0 ≤ pc ∧ pc < 48) ∨ (48 ≤ pc ∧ pc < 96) ∨ (96 ≤ pc ∧ pc < 144) ∨ (144 ≤ pc ∧ pc < 192) ∨ (192 ≤ pc ∧ pc < 240) ∨ (240 ≤ pc ∧ pc < 288) ∨ (288 ≤ pc ∧ pc < 336) ∨ (336 ≤ pc ∧ pc < 384) ∨ (384 ≤ pc ∧ pc < 432) ∨ (432 ≤ pc ∧ pc < 480) ∨ (480 ≤ pc ∧ pc < 528) ∨ (528 ≤ pc ∧ pc < 576) ∨ (576 ≤ pc ∧ pc < 624) ∨ (624 ≤ pc ∧ pc < 649) ∨ 649 ≤ pc by omega) with h | h | h | h | h | h | h | h | h | h | h | h | h | h | h
  · exact List.all_eq_true.mp oc_130_0 pc (List.mem_range'_1.mpr (by omega))
  · exact List.all_eq_true.mp oc_130_1 pc (List.mem_range'_1.mpr (by omega))
  · exact List.all_eq_true.mp oc_130_2 pc (List.mem_range'_1.mpr (by omega))
  · exact List.all_eq_true.mp oc_130_3 pc (List.mem_range'_1.mpr (by omega))
  · exact List.all_eq_true.mp oc_130_4 pc (List.mem_range'_1.mpr (by omega))
  · exact List.all_eq_true.mp oc_130_5 pc (List.mem_range'_1.mpr (by omega))
  · exact List.all_eq_true.mp oc_130_6 pc (List.mem_range'_1.mpr (by omega))
  · exact List.all_eq_true.mp oc_130_7 pc (List.mem_range'_1.mpr (by omega))
  · exact List.all_eq_true.mp oc_130_8 pc (List.mem_range'_1.mpr (by omega))
  · exact List.all_eq_true.mp oc_130_9 pc (List.mem_range'_1.mpr (by omega))
  · exact List.all_eq_true.mp oc_130_10 pc (List.mem_range'_1.mpr (by omega))
  · exact List.all_eq_true.mp oc_130_11 pc (List.mem_range'_1.mpr (by omega))
  · exact List.all_eq_true.mp oc_130_12 pc (List.mem_range'_1.mpr (by omega))
  · exact List.all_eq_true.mp oc_130_13 pc (List.mem_range'_1.mpr (by omega))
  · exact okPc_big (Nat.le_trans (Nat.le_of_ble_eq_true (by decide +kernel)) h)
theorem oc_all : ∀ m, m < 131 → ∀ pc, okPc m pc = true
  | 0, _ => oc_0
  | 1, _ => oc_1
  | 2, _ => oc_2
  | 3, _ => oc_3
  | 4, _ => oc_4
  | 5, _ => oc_5
  | 6, _ => oc_6
  | 7, _ => oc_7
  | 8, _ => oc_8
  | 9, _ => oc_9
  | 10, _ => oc_10
  | 11, _ => oc_11
  | 12, _ => oc_12
  | 13, _ => oc_13
  | 14, _ => oc_14
  | 15, _ => oc_15
  | 16, _ => oc_16
  | 17, _ => oc_17
  | 18, _ => oc_18
  | 19, _ => oc_19
  | 20, _ => oc_20
  | 21, _ => oc_21
  | 22, _ => oc_22
  | 23, _ => oc_23
  | 24, _ => oc_24
  | 25, _ => oc_25
  | 26, _ => oc_26
  | 27, _ => oc_27
  | 28, _ => oc_28
  | 29, _ => oc_29
  | 30, _ => oc_30
  | 31, _ => oc_31
  | 32, _ => oc_32
  | 33, _ => oc_33
  | 34, _ => oc_34
  | 35, _ => oc_35
  | 36, _ => oc_36
  | 37, _ => oc_37
  | 38, _ => oc_38
  | 39, _ => oc_39
  | 40, _ => oc_40
  | 41, _ => oc_41
  | 42, _ => oc_42
  | 43, _ => oc_43
  | 44, _ => oc_44
  | 45, _ => oc_45
  | 46, _ => oc_46
  | 47, _ => oc_47
  | 48, _ => oc_48
  | 49, _ => oc_49
  | 50, _ => oc_50
  | 51, _ => oc_51
  | 52, _ => oc_52
  | 53, _ => oc_53
  | 54, _ => oc_54
  | 55, _ => oc_55
  | 56, _ => oc_56
  | 57, _ => oc_57
  | 58, _ => oc_58
  | 59, _ => oc_59
  | 60, _ => oc_60
  | 61, _ => oc_61
  | 62, _ => oc_62
  | 63, _ => oc_63
  | 64, _ => oc_64
  | 65, _ => oc_65
  | 66, _ => oc_66
  | 67, _ => oc_67
  | 68, _ => oc_68
  | 69, _ => oc_69
  | 70, _ => oc_70
  | 71, _ => oc_71
  | 72, _ => oc_72
  | 73, _ => oc_73
  | 74, _ => oc_74
  | 75, _ => oc_75
  | 76, _ => oc_76
  | 77, _ => oc_77
  | 78, _ => oc_78
  | 79, _ => oc_79
  | 80, _ => oc_80
  | 81, _ => oc_81
  | 82, _ => oc_82
  | 83, _ => oc_83
  | 84, _ => oc_84
  | 85, _ => oc_85
  | 86, _ => oc_86
  | 87, _ => oc_87
  | 88, _ => oc_88
  | 89, _ => oc_89
  | 90, _ => oc_90
  | 91, _ => oc_91
  | 92, _ => oc_92
  | 93, _ => oc_93
  | 94, _ => oc_94
  | 95, _ => oc_95
  | 96, _ => oc_96
  | 97, _ => oc_97
  | 98, _ => oc_98
  | 99, _ => oc_99
  | 100, _ => oc_100
  | 101, _ => oc_101
  | 102, _ => oc_102
  | 103, _ => oc_103
  | 104, _ => oc_104
  | 105, _ => oc_105
  | 106, _ => oc_106
  | 107, _ => oc_107
  | 108, _ => oc_108
  | 109, _ => oc_109
  | 110, _ => oc_110
  | 111, _ => oc_111
  | 112, _ => oc_112
  | 113, _ => oc_113
  | 114, _ => oc_114
  | 115, _ => oc_115
  | 116, _ => oc_116
  | 117, _ => oc_117
  | 118, _ => oc_118
  | 119, _ => oc_119
  | 120, _ => oc_120
  | 121, _ => oc_121
  | 122, _ => oc_122
  | 123, _ => oc_123
  | 124, _ => oc_124
  | 125, _ => oc_125
  | 126, _ => oc_126
  | 127, _ => oc_127
  | 128, _ => oc_128
  | 129, _ => oc_129
  | 130, _ => oc_130
  | k + 131, h => absurd h (by omega)
