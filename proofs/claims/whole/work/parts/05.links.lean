/-- the words that a call hands on -/
def gw : List Cond := lw_tbl.filter goodWord
def atW (i : Nat) (c : Cond) : Bool := decide (lw_tbl[i]? = some c) && goodWord c
theorem gw_of {i : Nat} {c : Cond} (h : atW i c = true) : c ∈ gw := by
  unfold atW at h
  rw [Bool.and_eq_true, decide_eq_true_eq] at h
  exact List.mem_filter.mpr ⟨List.mem_of_getElem? h.1, h.2⟩
theorem gw_sub : ∀ w ∈ gw, w ∈ lw_tbl := fun _ h => (List.mem_filter.mp h).1
theorem gw_good : GoodIn gw gw := fun w h => ⟨h, good_of_word (List.mem_filter.mp h).2⟩
/-- fields: class that links, entry of its pool, 32 * class + slot, place of the word -/
def FLt : List (Nat × Nat × Nat × Nat) := [(0, 9, 0, 67), (0, 15, 1, 68), (0, 18, 2, 69), (0, 22, 3, 70), (0, 25, 4, 71), (3, 9, 96, 90), (3, 15, 97, 91), (2, 9, 64, 110), (2, 15, 65, 111), (2, 18, 66, 112), (2, 21, 67, 113), (2, 25, 68, 114), (2, 29, 69, 115), (2, 32, 70, 117), (1, 9, 32, 136), (1, 15, 33, 138), (1, 19, 34, 139), (1, 26, 35, 140), (4, 13, 128, 151), (4, 21, 129, 152), (4, 25, 130, 153), (4, 29, 131, 154), (4, 32, 132, 155), (4, 36, 133, 156), (4, 40, 134, 157), (5, 7, 160, 526), (5, 13, 161, 527), (5, 43, 162, 528), (5, 46, 163, 529), (5, 35, 164, 530), (5, 39, 165, 531), (5, 49, 166, 532), (5, 16, 167, 533), (5, 19, 168, 534), (5, 22, 169, 535), (5, 25, 170, 536), (5, 60, 171, 537), (5, 75, 172, 538), (5, 78, 173, 539), (5, 84, 174, 540), (5, 29, 175, 541), (5, 111, 176, 542), (5, 32, 177, 543), (5, 95, 178, 544)]
def FNt : List (Nat × Nat × Nat × Nat) := [(4, 194, 69, 116), (4, 190, 70, 118), (4, 200, 32, 137), (4, 94, 35, 141)]
def hostN : String := "FlashTree"
def cT (ci : Nat) : u_T := (vwCl.getD ci ("", fun _ => ("", "", "", false), 0)).2.1
def fCond (o i a : Nat) : Cond := .fieldLink (cName o) i (cT (a / 32) (a % 32)).1 (cT (a / 32) (a % 32)).2.1 (cT (a / 32) (a % 32)).2.2.1
def nCond (o i a : Nat) : Cond := .fieldLinkNest (cName o) i (cT (a / 32) (a % 32)).1 (cT (a / 32) (a % 32)).2.1 (cT (a / 32) (a % 32)).2.2.1 hostN
def nwS : List Cond := FNt.map fun q => nCond q.1 q.2.1 q.2.2.1
theorem FLt_ok : FLt.all (fun q => atW q.2.2.2 (fCond q.1 q.2.1 q.2.2.1)) = true := by decide +kernel
theorem FNt_ok : FNt.all (fun q => decide (lw_tbl[q.2.2.2]? = some (nCond q.1 q.2.1 q.2.2.1))) = true := by decide +kernel
theorem nwS_sub : ∀ w ∈ nwS, w ∈ lw_tbl := by
  intro w h
  obtain ⟨q, hq, rfl⟩ := List.mem_map.mp h
  have := List.all_eq_true.mp FNt_ok q hq
  exact List.mem_of_getElem? (of_decide_eq_true this)
/-- methods: class that links, entry, the method, place of the word -/
def MLt : List (Nat × Nat × Nat × Nat) := [(6, 9, 53, 55), (4, 9, 0, 63), (4, 12, 42, 86), (4, 44, 13, 100), (1, 25, 23, 106), (6, 13, 54, 173), (4, 47, 1, 177), (6, 18, 55, 181), (4, 51, 3, 185), (6, 23, 56, 189), (4, 55, 2, 193), (6, 27, 57, 197), (4, 58, 76, 201), (4, 178, 75, 205), (4, 62, 16, 208), (1, 40, 24, 212), (1, 43, 14, 216), (1, 30, 9, 220), (0, 40, 6, 224), (0, 29, 11, 228), (0, 33, 12, 231), (1, 36, 18, 234), (1, 68, 6, 238), (1, 55, 21, 239), (1, 75, 43, 243), (1, 80, 31, 247), (2, 46, 41, 251), (1, 83, 35, 255), (2, 49, 47, 259), (3, 19, 46, 263), (2, 55, 48, 267), (1, 87, 36, 271), (2, 59, 27, 275), (2, 63, 50, 279), (1, 90, 8, 283), (0, 36, 10, 287), (1, 93, 7, 291), (1, 71, 22, 295), (1, 63, 44, 299), (1, 97, 45, 303), (6, 32, 58, 307), (4, 65, 14, 311), (4, 69, 80, 312), (4, 184, 15, 316), (1, 47, 20, 320), (1, 76, 46, 324), (1, 51, 37, 325), (2, 66, 44, 329), (2, 70, 38, 330), (2, 74, 45, 334), (2, 77, 52, 335), (3, 23, 45, 339), (2, 81, 39, 340), (2, 35, 28, 344), (2, 89, 26, 348), (2, 85, 40, 352), (4, 72, 81, 356), (4, 132, 32, 360), (4, 76, 82, 364), (4, 181, 77, 368), (4, 187, 27, 372), (4, 80, 83, 373), (4, 98, 28, 377), (4, 110, 43, 378), (4, 138, 49, 379), (4, 117, 17, 383), (1, 59, 19, 387), (4, 197, 51, 391), (6, 36, 59, 395), (4, 84, 78, 399), (4, 87, 72, 403), (4, 90, 74, 407), (4, 104, 26, 410), (4, 107, 79, 411), (4, 113, 48, 415), (4, 121, 73, 416), (6, 43, 60, 420), (4, 125, 30, 424), (2, 43, 32, 428), (4, 128, 47, 429), (6, 48, 61, 430), (4, 135, 25, 434), (6, 52, 62, 438), (4, 141, 84, 442), (4, 203, 85, 446), (4, 145, 86, 450), (4, 153, 31, 454), (4, 207, 35, 455), (4, 149, 87, 456), (4, 211, 50, 460), (6, 57, 63, 461), (6, 61, 64, 465), (6, 65, 65, 469), (4, 156, 29, 473), (2, 39, 30, 477), (4, 159, 33, 478), (6, 69, 66, 482), (4, 164, 34, 487), (6, 74, 67, 491), (6, 78, 68, 495), (6, 82, 69, 499), (4, 168, 6, 503), (6, 86, 70, 504), (4, 172, 5, 508), (6, 91, 71, 512), (4, 175, 4, 516), (6, 12, 88, 522), (6, 17, 89, 584), (6, 22, 90, 588), (6, 26, 91, 592), (6, 31, 112, 596), (5, 120, 106, 600), (5, 108, 101, 604), (5, 81, 96, 608), (5, 56, 95, 612), (5, 87, 100, 616), (5, 67, 98, 620), (5, 63, 97, 624), (5, 71, 99, 628), (5, 101, 94, 632), (5, 52, 92, 636), (5, 91, 93, 640), (5, 104, 102, 644), (5, 114, 104, 648), (5, 98, 103, 652), (5, 123, 111, 656), (6, 35, 113, 660), (5, 117, 108, 664), (5, 127, 107, 668), (5, 130, 105, 672), (6, 40, 115, 676), (5, 133, 110, 680), (5, 137, 109, 684), (5, 140, 114, 688), (6, 47, 116, 691), (6, 51, 117, 695), (6, 56, 119, 699), (5, 143, 118, 703), (6, 60, 121, 707), (6, 64, 122, 711), (5, 146, 120, 715), (6, 68, 123, 719), (6, 73, 124, 723), (6, 77, 125, 728), (6, 81, 126, 732), (6, 85, 127, 736), (6, 90, 128, 740), (6, 94, 129, 744)]
theorem MLt_ok : MLt.all (fun q => atW q.2.2.2 (.methodLink (cName q.1) q.2.1 (mY q.2.2.1))) = true := by decide +kernel
def OLt : List (Nat × Nat × Nat) := [(4, 1, 58), (0, 3, 66), (3, 3, 89), (1, 3, 103), (2, 3, 109), (5, 1, 525)]
theorem OLt_ok : OLt.all (fun q => atW q.2.2 (.methodLink (cName q.1) q.2.1 objectInit)) = true := by decide +kernel
def CLt : List (Nat × Nat × Nat × Nat) := [(6, 7, 4, 53), (4, 7, 0, 61), (4, 10, 3, 84), (4, 19, 1, 97), (1, 23, 2, 104), (6, 10, 5, 520)]
theorem CLt_ok : CLt.all (fun q => atW q.2.2.2 (.classLink (cName q.1) q.2.1 (cName q.2.2.1))) = true := by decide +kernel
def KLt : List (Nat × Nat × Nat × Nat) := [(4, 162, 0, 486), (5, 150, 0, 727), (6, 41, 1, 748)]
theorem KLt_ok : KLt.all (fun q => atW q.2.2.2 (.constantLong (cName q.1) q.2.1 (kcs.getD q.2.2.1 0))) = true := by decide +kernel
/-- a method: places of its code, its class's start, its kind (0 static, 1 constructor, 2 instance), the kind's word, its selection -/
def MPt : List (Nat × Nat × Nat × Nat × Nat) := [(65, 48, 1, 64, 0), (180, 48, 2, 178, 179), (196, 48, 2, 194, 195), (188, 48, 2, 186, 187), (519, 48, 2, 517, 518), (511, 48, 2, 509, 510), (227, 48, 2, 225, 226), (294, 48, 2, 292, 293), (286, 48, 2, 284, 285), (223, 48, 2, 221, 222), (290, 48, 2, 289, 4), (230, 48, 0, 229, 0), (233, 48, 0, 232, 0), (102, 50, 1, 101, 0), (219, 50, 2, 217, 218), (319, 50, 2, 317, 318), (211, 50, 2, 209, 210), (386, 50, 2, 384, 385), (237, 50, 2, 236, 1), (390, 50, 2, 389, 15), (323, 50, 2, 322, 7), (242, 50, 2, 241, 2), (298, 50, 2, 297, 5), (108, 51, 1, 107, 0), (215, 51, 2, 213, 214), (437, 51, 2, 435, 436), (351, 51, 2, 349, 350), (278, 51, 2, 276, 277), (347, 51, 2, 345, 346), (476, 51, 2, 474, 475), (427, 51, 2, 425, 426), (250, 51, 2, 248, 249), (363, 51, 2, 361, 362), (481, 51, 2, 479, 480), (490, 51, 2, 488, 489), (258, 51, 2, 256, 257), (274, 51, 2, 272, 273), (328, 51, 2, 326, 327), (333, 51, 2, 332, 8), (343, 51, 2, 342, 9), (355, 51, 2, 354, 10), (254, 51, 2, 253, 3), (88, 49, 1, 87, 0), (246, 49, 2, 244, 245), (302, 49, 2, 300, 301), (306, 49, 2, 304, 305), (266, 49, 2, 264, 265), (262, 49, 2, 260, 261), (270, 49, 2, 268, 269), (382, 49, 2, 380, 381), (282, 49, 2, 280, 281), (394, 49, 2, 392, 393), (338, 49, 2, 336, 337), (57, 47, 1, 56, 0), (176, 47, 2, 174, 175), (184, 47, 2, 182, 183), (192, 47, 2, 190, 191), (200, 47, 2, 198, 199), (310, 47, 2, 308, 309), (398, 47, 2, 396, 397), (423, 47, 2, 421, 422), (433, 47, 2, 431, 432), (441, 47, 2, 439, 440), (464, 47, 2, 462, 463), (468, 47, 2, 466, 467), (472, 47, 2, 470, 471), (485, 47, 2, 483, 484), (494, 47, 2, 492, 493), (498, 47, 2, 496, 497), (502, 47, 2, 500, 501), (507, 47, 2, 505, 506), (515, 47, 2, 513, 514), (406, 47, 2, 405, 17), (419, 47, 2, 418, 19), (409, 47, 0, 408, 0), (207, 47, 0, 206, 0), (204, 47, 2, 203, 0), (371, 47, 2, 370, 13), (402, 47, 2, 401, 16), (414, 47, 2, 413, 18), (315, 47, 2, 314, 6), (359, 47, 2, 358, 11), (367, 47, 2, 366, 12), (376, 47, 2, 375, 14), (445, 47, 2, 444, 20), (449, 47, 2, 448, 21), (453, 47, 2, 452, 22), (459, 47, 2, 458, 23), (524, 52, 1, 523, 0), (587, 52, 2, 585, 586), (591, 52, 2, 589, 590), (595, 52, 2, 593, 594), (639, 52, 2, 638, 33), (643, 52, 2, 642, 34), (635, 52, 2, 634, 32), (615, 52, 2, 614, 27), (611, 52, 2, 610, 26), (627, 52, 2, 626, 30), (623, 52, 2, 622, 29), (631, 52, 2, 630, 31), (619, 52, 2, 618, 28), (607, 52, 2, 606, 25), (647, 52, 2, 646, 35), (655, 52, 2, 654, 37), (651, 52, 2, 650, 36), (675, 52, 2, 674, 41), (603, 52, 2, 602, 24), (671, 52, 2, 670, 40), (667, 52, 2, 666, 39), (687, 52, 2, 686, 43), (683, 52, 2, 682, 42), (659, 52, 2, 658, 38), (599, 52, 2, 597, 598), (663, 52, 2, 661, 662), (690, 52, 0, 689, 0), (679, 52, 2, 677, 678), (694, 52, 2, 692, 693), (698, 52, 2, 696, 697), (706, 52, 2, 705, 44), (702, 52, 2, 700, 701), (718, 52, 2, 717, 45), (710, 52, 2, 708, 709), (714, 52, 2, 712, 713), (722, 52, 2, 720, 721), (726, 52, 2, 724, 725), (731, 52, 2, 729, 730), (735, 52, 2, 733, 734), (739, 52, 2, 737, 738), (743, 52, 2, 741, 742), (747, 52, 2, 745, 746)]
def mKind (m : Nat) : Nat := (MPt.getD m (0, 0, 9, 0, 0)).2.2.1
def okM (m : Nat) : Bool := match MPt[m]? with
  | none => false
  | some (pc, ini, kd, wd, sel) => atW ini (.initialized (mY m).cls) && plainName (mY m).cls && decide ((mY m).cls ≠ "java/lang/invoke/MethodHandle" ∧ (mY m).cls ≠ "java/lang/invoke/VarHandle") && decide ((parseMethodDescriptor (mY m).desc).map (fun d => d.parameters.length) = some (mArgs m)) && (match kd with
    | 0 => atW wd (.static (mY m))
    | 1 => atW wd (.instanceMethod (mY m)) && decide ((mY m).name = "<init>") && decide (mRet m = none)
    | _ => atW wd (.instanceMethod (mY m)) && atW sel (.selects (mY m).cls (mY m) (mY m)))
theorem good_code (y : MethodName) (b : ByteArray) (n : Nat) (r : Option FieldType) : goodWord (.code y b n r) = true := rfl
set_option maxRecDepth 20000 in
theorem mc_0 : Cond.code (mY 0) (mBytes 0) (mMax 0) (mRet 0) ∈ gw := List.mem_filter.mpr ⟨List.mem_of_getElem? (i := 65) rfl, good_code _ _ _ _⟩
set_option maxRecDepth 20000 in
theorem mc_1 : Cond.code (mY 1) (mBytes 1) (mMax 1) (mRet 1) ∈ gw := List.mem_filter.mpr ⟨List.mem_of_getElem? (i := 180) rfl, good_code _ _ _ _⟩
set_option maxRecDepth 20000 in
theorem mc_2 : Cond.code (mY 2) (mBytes 2) (mMax 2) (mRet 2) ∈ gw := List.mem_filter.mpr ⟨List.mem_of_getElem? (i := 196) rfl, good_code _ _ _ _⟩
set_option maxRecDepth 20000 in
theorem mc_3 : Cond.code (mY 3) (mBytes 3) (mMax 3) (mRet 3) ∈ gw := List.mem_filter.mpr ⟨List.mem_of_getElem? (i := 188) rfl, good_code _ _ _ _⟩
set_option maxRecDepth 20000 in
theorem mc_4 : Cond.code (mY 4) (mBytes 4) (mMax 4) (mRet 4) ∈ gw := List.mem_filter.mpr ⟨List.mem_of_getElem? (i := 519) rfl, good_code _ _ _ _⟩
set_option maxRecDepth 20000 in
theorem mc_5 : Cond.code (mY 5) (mBytes 5) (mMax 5) (mRet 5) ∈ gw := List.mem_filter.mpr ⟨List.mem_of_getElem? (i := 511) rfl, good_code _ _ _ _⟩
set_option maxRecDepth 20000 in
theorem mc_6 : Cond.code (mY 6) (mBytes 6) (mMax 6) (mRet 6) ∈ gw := List.mem_filter.mpr ⟨List.mem_of_getElem? (i := 227) rfl, good_code _ _ _ _⟩
set_option maxRecDepth 20000 in
theorem mc_7 : Cond.code (mY 7) (mBytes 7) (mMax 7) (mRet 7) ∈ gw := List.mem_filter.mpr ⟨List.mem_of_getElem? (i := 294) rfl, good_code _ _ _ _⟩
set_option maxRecDepth 20000 in
theorem mc_8 : Cond.code (mY 8) (mBytes 8) (mMax 8) (mRet 8) ∈ gw := List.mem_filter.mpr ⟨List.mem_of_getElem? (i := 286) rfl, good_code _ _ _ _⟩
set_option maxRecDepth 20000 in
theorem mc_9 : Cond.code (mY 9) (mBytes 9) (mMax 9) (mRet 9) ∈ gw := List.mem_filter.mpr ⟨List.mem_of_getElem? (i := 223) rfl, good_code _ _ _ _⟩
set_option maxRecDepth 20000 in
theorem mc_10 : Cond.code (mY 10) (mBytes 10) (mMax 10) (mRet 10) ∈ gw := List.mem_filter.mpr ⟨List.mem_of_getElem? (i := 290) rfl, good_code _ _ _ _⟩
set_option maxRecDepth 20000 in
theorem mc_11 : Cond.code (mY 11) (mBytes 11) (mMax 11) (mRet 11) ∈ gw := List.mem_filter.mpr ⟨List.mem_of_getElem? (i := 230) rfl, good_code _ _ _ _⟩
set_option maxRecDepth 20000 in
theorem mc_12 : Cond.code (mY 12) (mBytes 12) (mMax 12) (mRet 12) ∈ gw := List.mem_filter.mpr ⟨List.mem_of_getElem? (i := 233) rfl, good_code _ _ _ _⟩
set_option maxRecDepth 20000 in
theorem mc_13 : Cond.code (mY 13) (mBytes 13) (mMax 13) (mRet 13) ∈ gw := List.mem_filter.mpr ⟨List.mem_of_getElem? (i := 102) rfl, good_code _ _ _ _⟩
set_option maxRecDepth 20000 in
theorem mc_14 : Cond.code (mY 14) (mBytes 14) (mMax 14) (mRet 14) ∈ gw := List.mem_filter.mpr ⟨List.mem_of_getElem? (i := 219) rfl, good_code _ _ _ _⟩
set_option maxRecDepth 20000 in
theorem mc_15 : Cond.code (mY 15) (mBytes 15) (mMax 15) (mRet 15) ∈ gw := List.mem_filter.mpr ⟨List.mem_of_getElem? (i := 319) rfl, good_code _ _ _ _⟩
set_option maxRecDepth 20000 in
theorem mc_16 : Cond.code (mY 16) (mBytes 16) (mMax 16) (mRet 16) ∈ gw := List.mem_filter.mpr ⟨List.mem_of_getElem? (i := 211) rfl, good_code _ _ _ _⟩
set_option maxRecDepth 20000 in
theorem mc_17 : Cond.code (mY 17) (mBytes 17) (mMax 17) (mRet 17) ∈ gw := List.mem_filter.mpr ⟨List.mem_of_getElem? (i := 386) rfl, good_code _ _ _ _⟩
set_option maxRecDepth 20000 in
theorem mc_18 : Cond.code (mY 18) (mBytes 18) (mMax 18) (mRet 18) ∈ gw := List.mem_filter.mpr ⟨List.mem_of_getElem? (i := 237) rfl, good_code _ _ _ _⟩
set_option maxRecDepth 20000 in
theorem mc_19 : Cond.code (mY 19) (mBytes 19) (mMax 19) (mRet 19) ∈ gw := List.mem_filter.mpr ⟨List.mem_of_getElem? (i := 390) rfl, good_code _ _ _ _⟩
set_option maxRecDepth 20000 in
theorem mc_20 : Cond.code (mY 20) (mBytes 20) (mMax 20) (mRet 20) ∈ gw := List.mem_filter.mpr ⟨List.mem_of_getElem? (i := 323) rfl, good_code _ _ _ _⟩
set_option maxRecDepth 20000 in
theorem mc_21 : Cond.code (mY 21) (mBytes 21) (mMax 21) (mRet 21) ∈ gw := List.mem_filter.mpr ⟨List.mem_of_getElem? (i := 242) rfl, good_code _ _ _ _⟩
set_option maxRecDepth 20000 in
theorem mc_22 : Cond.code (mY 22) (mBytes 22) (mMax 22) (mRet 22) ∈ gw := List.mem_filter.mpr ⟨List.mem_of_getElem? (i := 298) rfl, good_code _ _ _ _⟩
set_option maxRecDepth 20000 in
theorem mc_23 : Cond.code (mY 23) (mBytes 23) (mMax 23) (mRet 23) ∈ gw := List.mem_filter.mpr ⟨List.mem_of_getElem? (i := 108) rfl, good_code _ _ _ _⟩
set_option maxRecDepth 20000 in
theorem mc_24 : Cond.code (mY 24) (mBytes 24) (mMax 24) (mRet 24) ∈ gw := List.mem_filter.mpr ⟨List.mem_of_getElem? (i := 215) rfl, good_code _ _ _ _⟩
set_option maxRecDepth 20000 in
theorem mc_25 : Cond.code (mY 25) (mBytes 25) (mMax 25) (mRet 25) ∈ gw := List.mem_filter.mpr ⟨List.mem_of_getElem? (i := 437) rfl, good_code _ _ _ _⟩
set_option maxRecDepth 20000 in
theorem mc_26 : Cond.code (mY 26) (mBytes 26) (mMax 26) (mRet 26) ∈ gw := List.mem_filter.mpr ⟨List.mem_of_getElem? (i := 351) rfl, good_code _ _ _ _⟩
set_option maxRecDepth 20000 in
theorem mc_27 : Cond.code (mY 27) (mBytes 27) (mMax 27) (mRet 27) ∈ gw := List.mem_filter.mpr ⟨List.mem_of_getElem? (i := 278) rfl, good_code _ _ _ _⟩
set_option maxRecDepth 20000 in
theorem mc_28 : Cond.code (mY 28) (mBytes 28) (mMax 28) (mRet 28) ∈ gw := List.mem_filter.mpr ⟨List.mem_of_getElem? (i := 347) rfl, good_code _ _ _ _⟩
set_option maxRecDepth 20000 in
theorem mc_29 : Cond.code (mY 29) (mBytes 29) (mMax 29) (mRet 29) ∈ gw := List.mem_filter.mpr ⟨List.mem_of_getElem? (i := 476) rfl, good_code _ _ _ _⟩
set_option maxRecDepth 20000 in
theorem mc_30 : Cond.code (mY 30) (mBytes 30) (mMax 30) (mRet 30) ∈ gw := List.mem_filter.mpr ⟨List.mem_of_getElem? (i := 427) rfl, good_code _ _ _ _⟩
set_option maxRecDepth 20000 in
theorem mc_31 : Cond.code (mY 31) (mBytes 31) (mMax 31) (mRet 31) ∈ gw := List.mem_filter.mpr ⟨List.mem_of_getElem? (i := 250) rfl, good_code _ _ _ _⟩
set_option maxRecDepth 20000 in
theorem mc_32 : Cond.code (mY 32) (mBytes 32) (mMax 32) (mRet 32) ∈ gw := List.mem_filter.mpr ⟨List.mem_of_getElem? (i := 363) rfl, good_code _ _ _ _⟩
set_option maxRecDepth 20000 in
theorem mc_33 : Cond.code (mY 33) (mBytes 33) (mMax 33) (mRet 33) ∈ gw := List.mem_filter.mpr ⟨List.mem_of_getElem? (i := 481) rfl, good_code _ _ _ _⟩
set_option maxRecDepth 20000 in
theorem mc_34 : Cond.code (mY 34) (mBytes 34) (mMax 34) (mRet 34) ∈ gw := List.mem_filter.mpr ⟨List.mem_of_getElem? (i := 490) rfl, good_code _ _ _ _⟩
set_option maxRecDepth 20000 in
theorem mc_35 : Cond.code (mY 35) (mBytes 35) (mMax 35) (mRet 35) ∈ gw := List.mem_filter.mpr ⟨List.mem_of_getElem? (i := 258) rfl, good_code _ _ _ _⟩
set_option maxRecDepth 20000 in
theorem mc_36 : Cond.code (mY 36) (mBytes 36) (mMax 36) (mRet 36) ∈ gw := List.mem_filter.mpr ⟨List.mem_of_getElem? (i := 274) rfl, good_code _ _ _ _⟩
set_option maxRecDepth 20000 in
theorem mc_37 : Cond.code (mY 37) (mBytes 37) (mMax 37) (mRet 37) ∈ gw := List.mem_filter.mpr ⟨List.mem_of_getElem? (i := 328) rfl, good_code _ _ _ _⟩
set_option maxRecDepth 20000 in
theorem mc_38 : Cond.code (mY 38) (mBytes 38) (mMax 38) (mRet 38) ∈ gw := List.mem_filter.mpr ⟨List.mem_of_getElem? (i := 333) rfl, good_code _ _ _ _⟩
set_option maxRecDepth 20000 in
theorem mc_39 : Cond.code (mY 39) (mBytes 39) (mMax 39) (mRet 39) ∈ gw := List.mem_filter.mpr ⟨List.mem_of_getElem? (i := 343) rfl, good_code _ _ _ _⟩
set_option maxRecDepth 20000 in
theorem mc_40 : Cond.code (mY 40) (mBytes 40) (mMax 40) (mRet 40) ∈ gw := List.mem_filter.mpr ⟨List.mem_of_getElem? (i := 355) rfl, good_code _ _ _ _⟩
set_option maxRecDepth 20000 in
theorem mc_41 : Cond.code (mY 41) (mBytes 41) (mMax 41) (mRet 41) ∈ gw := List.mem_filter.mpr ⟨List.mem_of_getElem? (i := 254) rfl, good_code _ _ _ _⟩
set_option maxRecDepth 20000 in
theorem mc_42 : Cond.code (mY 42) (mBytes 42) (mMax 42) (mRet 42) ∈ gw := List.mem_filter.mpr ⟨List.mem_of_getElem? (i := 88) rfl, good_code _ _ _ _⟩
set_option maxRecDepth 20000 in
theorem mc_43 : Cond.code (mY 43) (mBytes 43) (mMax 43) (mRet 43) ∈ gw := List.mem_filter.mpr ⟨List.mem_of_getElem? (i := 246) rfl, good_code _ _ _ _⟩
set_option maxRecDepth 20000 in
theorem mc_44 : Cond.code (mY 44) (mBytes 44) (mMax 44) (mRet 44) ∈ gw := List.mem_filter.mpr ⟨List.mem_of_getElem? (i := 302) rfl, good_code _ _ _ _⟩
set_option maxRecDepth 20000 in
theorem mc_45 : Cond.code (mY 45) (mBytes 45) (mMax 45) (mRet 45) ∈ gw := List.mem_filter.mpr ⟨List.mem_of_getElem? (i := 306) rfl, good_code _ _ _ _⟩
set_option maxRecDepth 20000 in
theorem mc_46 : Cond.code (mY 46) (mBytes 46) (mMax 46) (mRet 46) ∈ gw := List.mem_filter.mpr ⟨List.mem_of_getElem? (i := 266) rfl, good_code _ _ _ _⟩
set_option maxRecDepth 20000 in
theorem mc_47 : Cond.code (mY 47) (mBytes 47) (mMax 47) (mRet 47) ∈ gw := List.mem_filter.mpr ⟨List.mem_of_getElem? (i := 262) rfl, good_code _ _ _ _⟩
set_option maxRecDepth 20000 in
theorem mc_48 : Cond.code (mY 48) (mBytes 48) (mMax 48) (mRet 48) ∈ gw := List.mem_filter.mpr ⟨List.mem_of_getElem? (i := 270) rfl, good_code _ _ _ _⟩
set_option maxRecDepth 20000 in
theorem mc_49 : Cond.code (mY 49) (mBytes 49) (mMax 49) (mRet 49) ∈ gw := List.mem_filter.mpr ⟨List.mem_of_getElem? (i := 382) rfl, good_code _ _ _ _⟩
set_option maxRecDepth 20000 in
theorem mc_50 : Cond.code (mY 50) (mBytes 50) (mMax 50) (mRet 50) ∈ gw := List.mem_filter.mpr ⟨List.mem_of_getElem? (i := 282) rfl, good_code _ _ _ _⟩
set_option maxRecDepth 20000 in
theorem mc_51 : Cond.code (mY 51) (mBytes 51) (mMax 51) (mRet 51) ∈ gw := List.mem_filter.mpr ⟨List.mem_of_getElem? (i := 394) rfl, good_code _ _ _ _⟩
set_option maxRecDepth 20000 in
theorem mc_52 : Cond.code (mY 52) (mBytes 52) (mMax 52) (mRet 52) ∈ gw := List.mem_filter.mpr ⟨List.mem_of_getElem? (i := 338) rfl, good_code _ _ _ _⟩
set_option maxRecDepth 20000 in
theorem mc_53 : Cond.code (mY 53) (mBytes 53) (mMax 53) (mRet 53) ∈ gw := List.mem_filter.mpr ⟨List.mem_of_getElem? (i := 57) rfl, good_code _ _ _ _⟩
set_option maxRecDepth 20000 in
theorem mc_54 : Cond.code (mY 54) (mBytes 54) (mMax 54) (mRet 54) ∈ gw := List.mem_filter.mpr ⟨List.mem_of_getElem? (i := 176) rfl, good_code _ _ _ _⟩
set_option maxRecDepth 20000 in
theorem mc_55 : Cond.code (mY 55) (mBytes 55) (mMax 55) (mRet 55) ∈ gw := List.mem_filter.mpr ⟨List.mem_of_getElem? (i := 184) rfl, good_code _ _ _ _⟩
set_option maxRecDepth 20000 in
theorem mc_56 : Cond.code (mY 56) (mBytes 56) (mMax 56) (mRet 56) ∈ gw := List.mem_filter.mpr ⟨List.mem_of_getElem? (i := 192) rfl, good_code _ _ _ _⟩
set_option maxRecDepth 20000 in
theorem mc_57 : Cond.code (mY 57) (mBytes 57) (mMax 57) (mRet 57) ∈ gw := List.mem_filter.mpr ⟨List.mem_of_getElem? (i := 200) rfl, good_code _ _ _ _⟩
set_option maxRecDepth 20000 in
theorem mc_58 : Cond.code (mY 58) (mBytes 58) (mMax 58) (mRet 58) ∈ gw := List.mem_filter.mpr ⟨List.mem_of_getElem? (i := 310) rfl, good_code _ _ _ _⟩
set_option maxRecDepth 20000 in
theorem mc_59 : Cond.code (mY 59) (mBytes 59) (mMax 59) (mRet 59) ∈ gw := List.mem_filter.mpr ⟨List.mem_of_getElem? (i := 398) rfl, good_code _ _ _ _⟩
set_option maxRecDepth 20000 in
theorem mc_60 : Cond.code (mY 60) (mBytes 60) (mMax 60) (mRet 60) ∈ gw := List.mem_filter.mpr ⟨List.mem_of_getElem? (i := 423) rfl, good_code _ _ _ _⟩
set_option maxRecDepth 20000 in
theorem mc_61 : Cond.code (mY 61) (mBytes 61) (mMax 61) (mRet 61) ∈ gw := List.mem_filter.mpr ⟨List.mem_of_getElem? (i := 433) rfl, good_code _ _ _ _⟩
set_option maxRecDepth 20000 in
theorem mc_62 : Cond.code (mY 62) (mBytes 62) (mMax 62) (mRet 62) ∈ gw := List.mem_filter.mpr ⟨List.mem_of_getElem? (i := 441) rfl, good_code _ _ _ _⟩
set_option maxRecDepth 20000 in
theorem mc_63 : Cond.code (mY 63) (mBytes 63) (mMax 63) (mRet 63) ∈ gw := List.mem_filter.mpr ⟨List.mem_of_getElem? (i := 464) rfl, good_code _ _ _ _⟩
set_option maxRecDepth 20000 in
theorem mc_64 : Cond.code (mY 64) (mBytes 64) (mMax 64) (mRet 64) ∈ gw := List.mem_filter.mpr ⟨List.mem_of_getElem? (i := 468) rfl, good_code _ _ _ _⟩
set_option maxRecDepth 20000 in
theorem mc_65 : Cond.code (mY 65) (mBytes 65) (mMax 65) (mRet 65) ∈ gw := List.mem_filter.mpr ⟨List.mem_of_getElem? (i := 472) rfl, good_code _ _ _ _⟩
set_option maxRecDepth 20000 in
theorem mc_66 : Cond.code (mY 66) (mBytes 66) (mMax 66) (mRet 66) ∈ gw := List.mem_filter.mpr ⟨List.mem_of_getElem? (i := 485) rfl, good_code _ _ _ _⟩
set_option maxRecDepth 20000 in
theorem mc_67 : Cond.code (mY 67) (mBytes 67) (mMax 67) (mRet 67) ∈ gw := List.mem_filter.mpr ⟨List.mem_of_getElem? (i := 494) rfl, good_code _ _ _ _⟩
set_option maxRecDepth 20000 in
theorem mc_68 : Cond.code (mY 68) (mBytes 68) (mMax 68) (mRet 68) ∈ gw := List.mem_filter.mpr ⟨List.mem_of_getElem? (i := 498) rfl, good_code _ _ _ _⟩
set_option maxRecDepth 20000 in
theorem mc_69 : Cond.code (mY 69) (mBytes 69) (mMax 69) (mRet 69) ∈ gw := List.mem_filter.mpr ⟨List.mem_of_getElem? (i := 502) rfl, good_code _ _ _ _⟩
set_option maxRecDepth 20000 in
theorem mc_70 : Cond.code (mY 70) (mBytes 70) (mMax 70) (mRet 70) ∈ gw := List.mem_filter.mpr ⟨List.mem_of_getElem? (i := 507) rfl, good_code _ _ _ _⟩
set_option maxRecDepth 20000 in
theorem mc_71 : Cond.code (mY 71) (mBytes 71) (mMax 71) (mRet 71) ∈ gw := List.mem_filter.mpr ⟨List.mem_of_getElem? (i := 515) rfl, good_code _ _ _ _⟩
set_option maxRecDepth 20000 in
theorem mc_72 : Cond.code (mY 72) (mBytes 72) (mMax 72) (mRet 72) ∈ gw := List.mem_filter.mpr ⟨List.mem_of_getElem? (i := 406) rfl, good_code _ _ _ _⟩
set_option maxRecDepth 20000 in
theorem mc_73 : Cond.code (mY 73) (mBytes 73) (mMax 73) (mRet 73) ∈ gw := List.mem_filter.mpr ⟨List.mem_of_getElem? (i := 419) rfl, good_code _ _ _ _⟩
set_option maxRecDepth 20000 in
theorem mc_74 : Cond.code (mY 74) (mBytes 74) (mMax 74) (mRet 74) ∈ gw := List.mem_filter.mpr ⟨List.mem_of_getElem? (i := 409) rfl, good_code _ _ _ _⟩
set_option maxRecDepth 20000 in
theorem mc_75 : Cond.code (mY 75) (mBytes 75) (mMax 75) (mRet 75) ∈ gw := List.mem_filter.mpr ⟨List.mem_of_getElem? (i := 207) rfl, good_code _ _ _ _⟩
set_option maxRecDepth 20000 in
theorem mc_76 : Cond.code (mY 76) (mBytes 76) (mMax 76) (mRet 76) ∈ gw := List.mem_filter.mpr ⟨List.mem_of_getElem? (i := 204) rfl, good_code _ _ _ _⟩
set_option maxRecDepth 20000 in
theorem mc_77 : Cond.code (mY 77) (mBytes 77) (mMax 77) (mRet 77) ∈ gw := List.mem_filter.mpr ⟨List.mem_of_getElem? (i := 371) rfl, good_code _ _ _ _⟩
set_option maxRecDepth 20000 in
theorem mc_78 : Cond.code (mY 78) (mBytes 78) (mMax 78) (mRet 78) ∈ gw := List.mem_filter.mpr ⟨List.mem_of_getElem? (i := 402) rfl, good_code _ _ _ _⟩
set_option maxRecDepth 20000 in
theorem mc_79 : Cond.code (mY 79) (mBytes 79) (mMax 79) (mRet 79) ∈ gw := List.mem_filter.mpr ⟨List.mem_of_getElem? (i := 414) rfl, good_code _ _ _ _⟩
set_option maxRecDepth 20000 in
theorem mc_80 : Cond.code (mY 80) (mBytes 80) (mMax 80) (mRet 80) ∈ gw := List.mem_filter.mpr ⟨List.mem_of_getElem? (i := 315) rfl, good_code _ _ _ _⟩
set_option maxRecDepth 20000 in
theorem mc_81 : Cond.code (mY 81) (mBytes 81) (mMax 81) (mRet 81) ∈ gw := List.mem_filter.mpr ⟨List.mem_of_getElem? (i := 359) rfl, good_code _ _ _ _⟩
set_option maxRecDepth 20000 in
theorem mc_82 : Cond.code (mY 82) (mBytes 82) (mMax 82) (mRet 82) ∈ gw := List.mem_filter.mpr ⟨List.mem_of_getElem? (i := 367) rfl, good_code _ _ _ _⟩
set_option maxRecDepth 20000 in
theorem mc_83 : Cond.code (mY 83) (mBytes 83) (mMax 83) (mRet 83) ∈ gw := List.mem_filter.mpr ⟨List.mem_of_getElem? (i := 376) rfl, good_code _ _ _ _⟩
set_option maxRecDepth 20000 in
theorem mc_84 : Cond.code (mY 84) (mBytes 84) (mMax 84) (mRet 84) ∈ gw := List.mem_filter.mpr ⟨List.mem_of_getElem? (i := 445) rfl, good_code _ _ _ _⟩
set_option maxRecDepth 20000 in
theorem mc_85 : Cond.code (mY 85) (mBytes 85) (mMax 85) (mRet 85) ∈ gw := List.mem_filter.mpr ⟨List.mem_of_getElem? (i := 449) rfl, good_code _ _ _ _⟩
set_option maxRecDepth 20000 in
theorem mc_86 : Cond.code (mY 86) (mBytes 86) (mMax 86) (mRet 86) ∈ gw := List.mem_filter.mpr ⟨List.mem_of_getElem? (i := 453) rfl, good_code _ _ _ _⟩
set_option maxRecDepth 20000 in
theorem mc_87 : Cond.code (mY 87) (mBytes 87) (mMax 87) (mRet 87) ∈ gw := List.mem_filter.mpr ⟨List.mem_of_getElem? (i := 459) rfl, good_code _ _ _ _⟩
set_option maxRecDepth 20000 in
theorem mc_88 : Cond.code (mY 88) (mBytes 88) (mMax 88) (mRet 88) ∈ gw := List.mem_filter.mpr ⟨List.mem_of_getElem? (i := 524) rfl, good_code _ _ _ _⟩
set_option maxRecDepth 20000 in
theorem mc_89 : Cond.code (mY 89) (mBytes 89) (mMax 89) (mRet 89) ∈ gw := List.mem_filter.mpr ⟨List.mem_of_getElem? (i := 587) rfl, good_code _ _ _ _⟩
set_option maxRecDepth 20000 in
theorem mc_90 : Cond.code (mY 90) (mBytes 90) (mMax 90) (mRet 90) ∈ gw := List.mem_filter.mpr ⟨List.mem_of_getElem? (i := 591) rfl, good_code _ _ _ _⟩
set_option maxRecDepth 20000 in
theorem mc_91 : Cond.code (mY 91) (mBytes 91) (mMax 91) (mRet 91) ∈ gw := List.mem_filter.mpr ⟨List.mem_of_getElem? (i := 595) rfl, good_code _ _ _ _⟩
set_option maxRecDepth 20000 in
theorem mc_92 : Cond.code (mY 92) (mBytes 92) (mMax 92) (mRet 92) ∈ gw := List.mem_filter.mpr ⟨List.mem_of_getElem? (i := 639) rfl, good_code _ _ _ _⟩
set_option maxRecDepth 20000 in
theorem mc_93 : Cond.code (mY 93) (mBytes 93) (mMax 93) (mRet 93) ∈ gw := List.mem_filter.mpr ⟨List.mem_of_getElem? (i := 643) rfl, good_code _ _ _ _⟩
set_option maxRecDepth 20000 in
theorem mc_94 : Cond.code (mY 94) (mBytes 94) (mMax 94) (mRet 94) ∈ gw := List.mem_filter.mpr ⟨List.mem_of_getElem? (i := 635) rfl, good_code _ _ _ _⟩
set_option maxRecDepth 20000 in
theorem mc_95 : Cond.code (mY 95) (mBytes 95) (mMax 95) (mRet 95) ∈ gw := List.mem_filter.mpr ⟨List.mem_of_getElem? (i := 615) rfl, good_code _ _ _ _⟩
set_option maxRecDepth 20000 in
theorem mc_96 : Cond.code (mY 96) (mBytes 96) (mMax 96) (mRet 96) ∈ gw := List.mem_filter.mpr ⟨List.mem_of_getElem? (i := 611) rfl, good_code _ _ _ _⟩
set_option maxRecDepth 20000 in
theorem mc_97 : Cond.code (mY 97) (mBytes 97) (mMax 97) (mRet 97) ∈ gw := List.mem_filter.mpr ⟨List.mem_of_getElem? (i := 627) rfl, good_code _ _ _ _⟩
set_option maxRecDepth 20000 in
theorem mc_98 : Cond.code (mY 98) (mBytes 98) (mMax 98) (mRet 98) ∈ gw := List.mem_filter.mpr ⟨List.mem_of_getElem? (i := 623) rfl, good_code _ _ _ _⟩
set_option maxRecDepth 20000 in
theorem mc_99 : Cond.code (mY 99) (mBytes 99) (mMax 99) (mRet 99) ∈ gw := List.mem_filter.mpr ⟨List.mem_of_getElem? (i := 631) rfl, good_code _ _ _ _⟩
set_option maxRecDepth 20000 in
theorem mc_100 : Cond.code (mY 100) (mBytes 100) (mMax 100) (mRet 100) ∈ gw := List.mem_filter.mpr ⟨List.mem_of_getElem? (i := 619) rfl, good_code _ _ _ _⟩
set_option maxRecDepth 20000 in
theorem mc_101 : Cond.code (mY 101) (mBytes 101) (mMax 101) (mRet 101) ∈ gw := List.mem_filter.mpr ⟨List.mem_of_getElem? (i := 607) rfl, good_code _ _ _ _⟩
set_option maxRecDepth 20000 in
theorem mc_102 : Cond.code (mY 102) (mBytes 102) (mMax 102) (mRet 102) ∈ gw := List.mem_filter.mpr ⟨List.mem_of_getElem? (i := 647) rfl, good_code _ _ _ _⟩
set_option maxRecDepth 20000 in
theorem mc_103 : Cond.code (mY 103) (mBytes 103) (mMax 103) (mRet 103) ∈ gw := List.mem_filter.mpr ⟨List.mem_of_getElem? (i := 655) rfl, good_code _ _ _ _⟩
set_option maxRecDepth 20000 in
theorem mc_104 : Cond.code (mY 104) (mBytes 104) (mMax 104) (mRet 104) ∈ gw := List.mem_filter.mpr ⟨List.mem_of_getElem? (i := 651) rfl, good_code _ _ _ _⟩
set_option maxRecDepth 20000 in
theorem mc_105 : Cond.code (mY 105) (mBytes 105) (mMax 105) (mRet 105) ∈ gw := List.mem_filter.mpr ⟨List.mem_of_getElem? (i := 675) rfl, good_code _ _ _ _⟩
set_option maxRecDepth 20000 in
theorem mc_106 : Cond.code (mY 106) (mBytes 106) (mMax 106) (mRet 106) ∈ gw := List.mem_filter.mpr ⟨List.mem_of_getElem? (i := 603) rfl, good_code _ _ _ _⟩
set_option maxRecDepth 20000 in
theorem mc_107 : Cond.code (mY 107) (mBytes 107) (mMax 107) (mRet 107) ∈ gw := List.mem_filter.mpr ⟨List.mem_of_getElem? (i := 671) rfl, good_code _ _ _ _⟩
set_option maxRecDepth 20000 in
theorem mc_108 : Cond.code (mY 108) (mBytes 108) (mMax 108) (mRet 108) ∈ gw := List.mem_filter.mpr ⟨List.mem_of_getElem? (i := 667) rfl, good_code _ _ _ _⟩
set_option maxRecDepth 20000 in
theorem mc_109 : Cond.code (mY 109) (mBytes 109) (mMax 109) (mRet 109) ∈ gw := List.mem_filter.mpr ⟨List.mem_of_getElem? (i := 687) rfl, good_code _ _ _ _⟩
set_option maxRecDepth 20000 in
theorem mc_110 : Cond.code (mY 110) (mBytes 110) (mMax 110) (mRet 110) ∈ gw := List.mem_filter.mpr ⟨List.mem_of_getElem? (i := 683) rfl, good_code _ _ _ _⟩
set_option maxRecDepth 20000 in
theorem mc_111 : Cond.code (mY 111) (mBytes 111) (mMax 111) (mRet 111) ∈ gw := List.mem_filter.mpr ⟨List.mem_of_getElem? (i := 659) rfl, good_code _ _ _ _⟩
set_option maxRecDepth 20000 in
theorem mc_112 : Cond.code (mY 112) (mBytes 112) (mMax 112) (mRet 112) ∈ gw := List.mem_filter.mpr ⟨List.mem_of_getElem? (i := 599) rfl, good_code _ _ _ _⟩
set_option maxRecDepth 20000 in
theorem mc_113 : Cond.code (mY 113) (mBytes 113) (mMax 113) (mRet 113) ∈ gw := List.mem_filter.mpr ⟨List.mem_of_getElem? (i := 663) rfl, good_code _ _ _ _⟩
set_option maxRecDepth 20000 in
theorem mc_114 : Cond.code (mY 114) (mBytes 114) (mMax 114) (mRet 114) ∈ gw := List.mem_filter.mpr ⟨List.mem_of_getElem? (i := 690) rfl, good_code _ _ _ _⟩
set_option maxRecDepth 20000 in
theorem mc_115 : Cond.code (mY 115) (mBytes 115) (mMax 115) (mRet 115) ∈ gw := List.mem_filter.mpr ⟨List.mem_of_getElem? (i := 679) rfl, good_code _ _ _ _⟩
set_option maxRecDepth 20000 in
theorem mc_116 : Cond.code (mY 116) (mBytes 116) (mMax 116) (mRet 116) ∈ gw := List.mem_filter.mpr ⟨List.mem_of_getElem? (i := 694) rfl, good_code _ _ _ _⟩
set_option maxRecDepth 20000 in
theorem mc_117 : Cond.code (mY 117) (mBytes 117) (mMax 117) (mRet 117) ∈ gw := List.mem_filter.mpr ⟨List.mem_of_getElem? (i := 698) rfl, good_code _ _ _ _⟩
set_option maxRecDepth 20000 in
theorem mc_118 : Cond.code (mY 118) (mBytes 118) (mMax 118) (mRet 118) ∈ gw := List.mem_filter.mpr ⟨List.mem_of_getElem? (i := 706) rfl, good_code _ _ _ _⟩
set_option maxRecDepth 20000 in
theorem mc_119 : Cond.code (mY 119) (mBytes 119) (mMax 119) (mRet 119) ∈ gw := List.mem_filter.mpr ⟨List.mem_of_getElem? (i := 702) rfl, good_code _ _ _ _⟩
set_option maxRecDepth 20000 in
theorem mc_120 : Cond.code (mY 120) (mBytes 120) (mMax 120) (mRet 120) ∈ gw := List.mem_filter.mpr ⟨List.mem_of_getElem? (i := 718) rfl, good_code _ _ _ _⟩
set_option maxRecDepth 20000 in
theorem mc_121 : Cond.code (mY 121) (mBytes 121) (mMax 121) (mRet 121) ∈ gw := List.mem_filter.mpr ⟨List.mem_of_getElem? (i := 710) rfl, good_code _ _ _ _⟩
set_option maxRecDepth 20000 in
theorem mc_122 : Cond.code (mY 122) (mBytes 122) (mMax 122) (mRet 122) ∈ gw := List.mem_filter.mpr ⟨List.mem_of_getElem? (i := 714) rfl, good_code _ _ _ _⟩
set_option maxRecDepth 20000 in
theorem mc_123 : Cond.code (mY 123) (mBytes 123) (mMax 123) (mRet 123) ∈ gw := List.mem_filter.mpr ⟨List.mem_of_getElem? (i := 722) rfl, good_code _ _ _ _⟩
set_option maxRecDepth 20000 in
theorem mc_124 : Cond.code (mY 124) (mBytes 124) (mMax 124) (mRet 124) ∈ gw := List.mem_filter.mpr ⟨List.mem_of_getElem? (i := 726) rfl, good_code _ _ _ _⟩
set_option maxRecDepth 20000 in
theorem mc_125 : Cond.code (mY 125) (mBytes 125) (mMax 125) (mRet 125) ∈ gw := List.mem_filter.mpr ⟨List.mem_of_getElem? (i := 731) rfl, good_code _ _ _ _⟩
set_option maxRecDepth 20000 in
theorem mc_126 : Cond.code (mY 126) (mBytes 126) (mMax 126) (mRet 126) ∈ gw := List.mem_filter.mpr ⟨List.mem_of_getElem? (i := 735) rfl, good_code _ _ _ _⟩
set_option maxRecDepth 20000 in
theorem mc_127 : Cond.code (mY 127) (mBytes 127) (mMax 127) (mRet 127) ∈ gw := List.mem_filter.mpr ⟨List.mem_of_getElem? (i := 739) rfl, good_code _ _ _ _⟩
set_option maxRecDepth 20000 in
theorem mc_128 : Cond.code (mY 128) (mBytes 128) (mMax 128) (mRet 128) ∈ gw := List.mem_filter.mpr ⟨List.mem_of_getElem? (i := 743) rfl, good_code _ _ _ _⟩
set_option maxRecDepth 20000 in
theorem mc_129 : Cond.code (mY 129) (mBytes 129) (mMax 129) (mRet 129) ∈ gw := List.mem_filter.mpr ⟨List.mem_of_getElem? (i := 747) rfl, good_code _ _ _ _⟩
theorem mc_all : ∀ m, m < 130 → Cond.code (mY m) (mBytes m) (mMax m) (mRet m) ∈ gw
  | 0, _ => mc_0
  | 1, _ => mc_1
  | 2, _ => mc_2
  | 3, _ => mc_3
  | 4, _ => mc_4
  | 5, _ => mc_5
  | 6, _ => mc_6
  | 7, _ => mc_7
  | 8, _ => mc_8
  | 9, _ => mc_9
  | 10, _ => mc_10
  | 11, _ => mc_11
  | 12, _ => mc_12
  | 13, _ => mc_13
  | 14, _ => mc_14
  | 15, _ => mc_15
  | 16, _ => mc_16
  | 17, _ => mc_17
  | 18, _ => mc_18
  | 19, _ => mc_19
  | 20, _ => mc_20
  | 21, _ => mc_21
  | 22, _ => mc_22
  | 23, _ => mc_23
  | 24, _ => mc_24
  | 25, _ => mc_25
  | 26, _ => mc_26
  | 27, _ => mc_27
  | 28, _ => mc_28
  | 29, _ => mc_29
  | 30, _ => mc_30
  | 31, _ => mc_31
  | 32, _ => mc_32
  | 33, _ => mc_33
  | 34, _ => mc_34
  | 35, _ => mc_35
  | 36, _ => mc_36
  | 37, _ => mc_37
  | 38, _ => mc_38
  | 39, _ => mc_39
  | 40, _ => mc_40
  | 41, _ => mc_41
  | 42, _ => mc_42
  | 43, _ => mc_43
  | 44, _ => mc_44
  | 45, _ => mc_45
  | 46, _ => mc_46
  | 47, _ => mc_47
  | 48, _ => mc_48
  | 49, _ => mc_49
  | 50, _ => mc_50
  | 51, _ => mc_51
  | 52, _ => mc_52
  | 53, _ => mc_53
  | 54, _ => mc_54
  | 55, _ => mc_55
  | 56, _ => mc_56
  | 57, _ => mc_57
  | 58, _ => mc_58
  | 59, _ => mc_59
  | 60, _ => mc_60
  | 61, _ => mc_61
  | 62, _ => mc_62
  | 63, _ => mc_63
  | 64, _ => mc_64
  | 65, _ => mc_65
  | 66, _ => mc_66
  | 67, _ => mc_67
  | 68, _ => mc_68
  | 69, _ => mc_69
  | 70, _ => mc_70
  | 71, _ => mc_71
  | 72, _ => mc_72
  | 73, _ => mc_73
  | 74, _ => mc_74
  | 75, _ => mc_75
  | 76, _ => mc_76
  | 77, _ => mc_77
  | 78, _ => mc_78
  | 79, _ => mc_79
  | 80, _ => mc_80
  | 81, _ => mc_81
  | 82, _ => mc_82
  | 83, _ => mc_83
  | 84, _ => mc_84
  | 85, _ => mc_85
  | 86, _ => mc_86
  | 87, _ => mc_87
  | 88, _ => mc_88
  | 89, _ => mc_89
  | 90, _ => mc_90
  | 91, _ => mc_91
  | 92, _ => mc_92
  | 93, _ => mc_93
  | 94, _ => mc_94
  | 95, _ => mc_95
  | 96, _ => mc_96
  | 97, _ => mc_97
  | 98, _ => mc_98
  | 99, _ => mc_99
  | 100, _ => mc_100
  | 101, _ => mc_101
  | 102, _ => mc_102
  | 103, _ => mc_103
  | 104, _ => mc_104
  | 105, _ => mc_105
  | 106, _ => mc_106
  | 107, _ => mc_107
  | 108, _ => mc_108
  | 109, _ => mc_109
  | 110, _ => mc_110
  | 111, _ => mc_111
  | 112, _ => mc_112
  | 113, _ => mc_113
  | 114, _ => mc_114
  | 115, _ => mc_115
  | 116, _ => mc_116
  | 117, _ => mc_117
  | 118, _ => mc_118
  | 119, _ => mc_119
  | 120, _ => mc_120
  | 121, _ => mc_121
  | 122, _ => mc_122
  | 123, _ => mc_123
  | 124, _ => mc_124
  | 125, _ => mc_125
  | 126, _ => mc_126
  | 127, _ => mc_127
  | 128, _ => mc_128
  | 129, _ => mc_129
  | k + 130, h => absurd h (by omega)
theorem okM_0 : (List.range' 0 33).all okM = true := by decide +kernel
theorem okM_1 : (List.range' 33 33).all okM = true := by decide +kernel
theorem okM_2 : (List.range' 66 33).all okM = true := by decide +kernel
theorem okM_3 : (List.range' 99 31).all okM = true := by decide +kernel
theorem okM_all : ∀ m, m < 130 → okM m = true := by
  intro m hm
  rcases (show (0 ≤ m ∧ m < 33) ∨ (33 ≤ m ∧ m < 66) ∨ (66 ≤ m ∧ m < 99) ∨ (99 ≤ m ∧ m < 130) by omega) with h | h | h | h
  · exact List.all_eq_true.mp okM_0 m (List.mem_range'_1.mpr (by omega))
  · exact List.all_eq_true.mp okM_1 m (List.mem_range'_1.mpr (by omega))
  · exact List.all_eq_true.mp okM_2 m (List.mem_range'_1.mpr (by omega))
  · exact List.all_eq_true.mp okM_3 m (List.mem_range'_1.mpr (by omega))
def wAO : Cond := .arrayOver (.object (cName 1))
theorem wAO_in : wAO ∈ lw_tbl := List.mem_of_getElem? (i := 98) (by decide +kernel)
theorem wOI_in : Cond.instanceMethod objectInit ∈ gw := gw_of (i := 59) (by decide +kernel)
theorem wOC_in : Cond.code objectInit ⟨#[0xb1]⟩ 1 none ∈ gw := gw_of (i := 60) (by decide +kernel)
theorem wA_int : Cond.arrayClass .int ∈ gw := gw_of (i := 83) (by decide +kernel)
theorem wA_boolean : Cond.arrayClass .boolean ∈ gw := gw_of (i := 134) (by decide +kernel)
theorem wA_long : Cond.arrayClass .long ∈ gw := gw_of (i := 135) (by decide +kernel)
def NWt : List (Nat × Nat) := [(62, 48), (99, 50), (105, 51), (85, 49), (54, 47), (521, 52)]
theorem NWt_ok : (List.range 6).all (fun ci => atW (NWt.getD ci (0, 0)).1 (.instantiable (cName ci) (nSl ci)) && atW (NWt.getD ci (0, 0)).2 (.initialized (cName ci))) = true := by decide +kernel
theorem lay0 : ∀ w ∈ u_ws RX0 TX0 5, w ∈ gw := by
  intro w h
  obtain ⟨k, hk, rfl⟩ := List.mem_map.mp h
  have h2 : (List.range 5).all (fun k => atW (([72, 74, 76, 78, 80] : List Nat).getD k 0) (u_lay RX0 TX0 k)) = true := by decide +kernel
  exact gw_of (List.all_eq_true.mp h2 k hk)
theorem lay1 : ∀ w ∈ u_ws RX1 TX1 4, w ∈ gw := by
  intro w h
  obtain ⟨k, hk, rfl⟩ := List.mem_map.mp h
  have h2 : (List.range 4).all (fun k => atW (([142, 144, 146, 148] : List Nat).getD k 0) (u_lay RX1 TX1 k)) = true := by decide +kernel
  exact gw_of (List.all_eq_true.mp h2 k hk)
theorem lay2 : ∀ w ∈ u_ws RX2 TX2 7, w ∈ gw := by
  intro w h
  obtain ⟨k, hk, rfl⟩ := List.mem_map.mp h
  have h2 : (List.range 7).all (fun k => atW (([119, 121, 123, 125, 127, 129, 131] : List Nat).getD k 0) (u_lay RX2 TX2 k)) = true := by decide +kernel
  exact gw_of (List.all_eq_true.mp h2 k hk)
theorem lay3 : ∀ w ∈ u_ws RX3 TX3 2, w ∈ gw := by
  intro w h
  obtain ⟨k, hk, rfl⟩ := List.mem_map.mp h
  have h2 : (List.range 2).all (fun k => atW (([92, 94] : List Nat).getD k 0) (u_lay RX3 TX3 k)) = true := by decide +kernel
  exact gw_of (List.all_eq_true.mp h2 k hk)
theorem lay4 : ∀ w ∈ u_ws RX4 TX4 7, w ∈ gw := by
  intro w h
  obtain ⟨k, hk, rfl⟩ := List.mem_map.mp h
  have h2 : (List.range 7).all (fun k => atW (([158, 160, 162, 164, 166, 168, 170] : List Nat).getD k 0) (u_lay RX4 TX4 k)) = true := by decide +kernel
  exact gw_of (List.all_eq_true.mp h2 k hk)
theorem lay5 : ∀ w ∈ u_ws RX5 TX5 19, w ∈ gw := by
  intro w h
  obtain ⟨k, hk, rfl⟩ := List.mem_map.mp h
  have h2 : (List.range 19).all (fun k => atW (([545, 547, 549, 551, 553, 555, 557, 559, 561, 563, 565, 567, 569, 571, 573, 575, 577, 579, 581] : List Nat).getD k 0) (u_lay RX5 TX5 k)) = true := by decide +kernel
  exact gw_of (List.all_eq_true.mp h2 k hk)
