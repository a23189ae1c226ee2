section
-- ===== PART A: goes FIRST, ahead of the names: the tables' words, and 'selects' of the private methods out of them =====
/-- a private method of a class that the tables say can be made, by its rows of tables_1 -/
def lw_okq (q : MethodName × Nat) : Prop := (q.1.cls ≠ "java/lang/invoke/MethodHandle" ∧ q.1.cls ≠ "java/lang/invoke/VarHandle") ∧ Cond.instantiable q.1.cls q.2 ∈ tables_1 ∧ Cond.privateMethod q.1 ∈ tables_1 ∧ Cond.instanceMethod q.1 ∈ tables_1
theorem lw_p0 : lw_okq (⟨"FlashTree", "folderAt", "(I)LFlashTree$Folder;"⟩, 7) := ⟨⟨by decide +kernel, by decide +kernel⟩, List.mem_of_getElem? (i := 8) (by decide +kernel), List.mem_of_getElem? (i := 156) (by decide +kernel), List.mem_of_getElem? (i := 157) (by decide +kernel)⟩
theorem lw_p1 : lw_okq (⟨"FlashTree$Folder", "isNewer", "(II)Z"⟩, 4) := ⟨⟨by decide +kernel, by decide +kernel⟩, List.mem_of_getElem? (i := 53) (by decide +kernel), List.mem_of_getElem? (i := 189) (by decide +kernel), List.mem_of_getElem? (i := 190) (by decide +kernel)⟩
theorem lw_p2 : lw_okq (⟨"FlashTree$Folder", "writeAnew", "(I)Z"⟩, 4) := ⟨⟨by decide +kernel, by decide +kernel⟩, List.mem_of_getElem? (i := 53) (by decide +kernel), List.mem_of_getElem? (i := 194) (by decide +kernel), List.mem_of_getElem? (i := 195) (by decide +kernel)⟩
theorem lw_p3 : lw_okq (⟨"FlashTree$Listing", "isPlace", "(I)Z"⟩, 7) := ⟨⟨by decide +kernel, by decide +kernel⟩, List.mem_of_getElem? (i := 59) (by decide +kernel), List.mem_of_getElem? (i := 210) (by decide +kernel), List.mem_of_getElem? (i := 211) (by decide +kernel)⟩
theorem lw_p4 : lw_okq (⟨"FlashTree$Flash", "spendUnit", "()Z"⟩, 5) := ⟨⟨by decide +kernel, by decide +kernel⟩, List.mem_of_getElem? (i := 16) (by decide +kernel), List.mem_of_getElem? (i := 258) (by decide +kernel), List.mem_of_getElem? (i := 259) (by decide +kernel)⟩
theorem lw_p5 : lw_okq (⟨"FlashTree$Folder", "programRecord", "(IILFlashTree$Operations;)Z"⟩, 4) := ⟨⟨by decide +kernel, by decide +kernel⟩, List.mem_of_getElem? (i := 53) (by decide +kernel), List.mem_of_getElem? (i := 266) (by decide +kernel), List.mem_of_getElem? (i := 267) (by decide +kernel)⟩
theorem lw_p6 : lw_okq (⟨"FlashTree", "loadAll", "()V"⟩, 7) := ⟨⟨by decide +kernel, by decide +kernel⟩, List.mem_of_getElem? (i := 8) (by decide +kernel), List.mem_of_getElem? (i := 283) (by decide +kernel), List.mem_of_getElem? (i := 284) (by decide +kernel)⟩
theorem lw_p7 : lw_okq (⟨"FlashTree$Folder", "readOperations", "(II)V"⟩, 4) := ⟨⟨by decide +kernel, by decide +kernel⟩, List.mem_of_getElem? (i := 53) (by decide +kernel), List.mem_of_getElem? (i := 291) (by decide +kernel), List.mem_of_getElem? (i := 292) (by decide +kernel)⟩
theorem lw_p8 : lw_okq (⟨"FlashTree$Listing", "applyOne", "(LFlashTree$Operations;I)I"⟩, 7) := ⟨⟨by decide +kernel, by decide +kernel⟩, List.mem_of_getElem? (i := 59) (by decide +kernel), List.mem_of_getElem? (i := 301) (by decide +kernel), List.mem_of_getElem? (i := 302) (by decide +kernel)⟩
theorem lw_p9 : lw_okq (⟨"FlashTree$Listing", "put", "(IIIJ)V"⟩, 7) := ⟨⟨by decide +kernel, by decide +kernel⟩, List.mem_of_getElem? (i := 59) (by decide +kernel), List.mem_of_getElem? (i := 311) (by decide +kernel), List.mem_of_getElem? (i := 312) (by decide +kernel)⟩
theorem lw_p10 : lw_okq (⟨"FlashTree$Listing", "takeOut", "(I)V"⟩, 7) := ⟨⟨by decide +kernel, by decide +kernel⟩, List.mem_of_getElem? (i := 59) (by decide +kernel), List.mem_of_getElem? (i := 323) (by decide +kernel), List.mem_of_getElem? (i := 324) (by decide +kernel)⟩
theorem lw_p11 : lw_okq (⟨"FlashTree", "reach", "(I[Z)V"⟩, 7) := ⟨⟨by decide +kernel, by decide +kernel⟩, List.mem_of_getElem? (i := 8) (by decide +kernel), List.mem_of_getElem? (i := 327) (by decide +kernel), List.mem_of_getElem? (i := 328) (by decide +kernel)⟩
theorem lw_p12 : lw_okq (⟨"FlashTree", "finishMove", "()Z"⟩, 7) := ⟨⟨by decide +kernel, by decide +kernel⟩, List.mem_of_getElem? (i := 8) (by decide +kernel), List.mem_of_getElem? (i := 332) (by decide +kernel), List.mem_of_getElem? (i := 333) (by decide +kernel)⟩
theorem lw_p13 : lw_okq (⟨"FlashTree", "folderReached", "(I)LFlashTree$Folder;"⟩, 7) := ⟨⟨by decide +kernel, by decide +kernel⟩, List.mem_of_getElem? (i := 8) (by decide +kernel), List.mem_of_getElem? (i := 336) (by decide +kernel), List.mem_of_getElem? (i := 337) (by decide +kernel)⟩
theorem lw_p14 : lw_okq (⟨"FlashTree", "finishMoveTo", "(LFlashTree$Folder;)Z"⟩, 7) := ⟨⟨by decide +kernel, by decide +kernel⟩, List.mem_of_getElem? (i := 8) (by decide +kernel), List.mem_of_getElem? (i := 341) (by decide +kernel), List.mem_of_getElem? (i := 342) (by decide +kernel)⟩
theorem lw_p15 : lw_okq (⟨"FlashTree$Folder", "logEnd", "(I)I"⟩, 4) := ⟨⟨by decide +kernel, by decide +kernel⟩, List.mem_of_getElem? (i := 53) (by decide +kernel), List.mem_of_getElem? (i := 355) (by decide +kernel), List.mem_of_getElem? (i := 356) (by decide +kernel)⟩
def lw_privs_1 : List (MethodName × Nat) := [(⟨"FlashTree", "folderAt", "(I)LFlashTree$Folder;"⟩, 7), (⟨"FlashTree$Folder", "isNewer", "(II)Z"⟩, 4), (⟨"FlashTree$Folder", "writeAnew", "(I)Z"⟩, 4), (⟨"FlashTree$Listing", "isPlace", "(I)Z"⟩, 7), (⟨"FlashTree$Flash", "spendUnit", "()Z"⟩, 5), (⟨"FlashTree$Folder", "programRecord", "(IILFlashTree$Operations;)Z"⟩, 4), (⟨"FlashTree", "loadAll", "()V"⟩, 7), (⟨"FlashTree$Folder", "readOperations", "(II)V"⟩, 4), (⟨"FlashTree$Listing", "applyOne", "(LFlashTree$Operations;I)I"⟩, 7), (⟨"FlashTree$Listing", "put", "(IIIJ)V"⟩, 7), (⟨"FlashTree$Listing", "takeOut", "(I)V"⟩, 7), (⟨"FlashTree", "reach", "(I[Z)V"⟩, 7), (⟨"FlashTree", "finishMove", "()Z"⟩, 7), (⟨"FlashTree", "folderReached", "(I)LFlashTree$Folder;"⟩, 7), (⟨"FlashTree", "finishMoveTo", "(LFlashTree$Folder;)Z"⟩, 7), (⟨"FlashTree$Folder", "logEnd", "(I)I"⟩, 4)]
theorem lw_r1 : ∀ q ∈ lw_privs_1, lw_okq q := List.forall_mem_cons.mpr ⟨lw_p0, List.forall_mem_cons.mpr ⟨lw_p1, List.forall_mem_cons.mpr ⟨lw_p2, List.forall_mem_cons.mpr ⟨lw_p3, List.forall_mem_cons.mpr ⟨lw_p4, List.forall_mem_cons.mpr ⟨lw_p5, List.forall_mem_cons.mpr ⟨lw_p6, List.forall_mem_cons.mpr ⟨lw_p7, List.forall_mem_cons.mpr ⟨lw_p8, List.forall_mem_cons.mpr ⟨lw_p9, List.forall_mem_cons.mpr ⟨lw_p10, List.forall_mem_cons.mpr ⟨lw_p11, List.forall_mem_cons.mpr ⟨lw_p12, List.forall_mem_cons.mpr ⟨lw_p13, List.forall_mem_cons.mpr ⟨lw_p14, List.forall_mem_cons.mpr ⟨lw_p15, fun _ h => absurd h List.not_mem_nil⟩⟩⟩⟩⟩⟩⟩⟩⟩⟩⟩⟩⟩⟩⟩⟩
theorem lw_p16 : lw_okq (⟨"FlashTree", "folderThere", "(I)LFlashTree$Folder;"⟩, 7) := ⟨⟨by decide +kernel, by decide +kernel⟩, List.mem_of_getElem? (i := 8) (by decide +kernel), List.mem_of_getElem? (i := 367) (by decide +kernel), List.mem_of_getElem? (i := 368) (by decide +kernel)⟩
theorem lw_p17 : lw_okq (⟨"FlashTree", "refusal", "()I"⟩, 7) := ⟨⟨by decide +kernel, by decide +kernel⟩, List.mem_of_getElem? (i := 8) (by decide +kernel), List.mem_of_getElem? (i := 371) (by decide +kernel), List.mem_of_getElem? (i := 372) (by decide +kernel)⟩
theorem lw_p18 : lw_okq (⟨"FlashTree", "lowestFreePair", "()I"⟩, 7) := ⟨⟨by decide +kernel, by decide +kernel⟩, List.mem_of_getElem? (i := 8) (by decide +kernel), List.mem_of_getElem? (i := 379) (by decide +kernel), List.mem_of_getElem? (i := 380) (by decide +kernel)⟩
theorem lw_p19 : lw_okq (⟨"FlashTree", "ended", "(ZI)I"⟩, 7) := ⟨⟨by decide +kernel, by decide +kernel⟩, List.mem_of_getElem? (i := 8) (by decide +kernel), List.mem_of_getElem? (i := 384) (by decide +kernel), List.mem_of_getElem? (i := 385) (by decide +kernel)⟩
theorem lw_p20 : lw_okq (⟨"FlashTree", "moveRefusal", "(LFlashTree$Folder;ILFlashTree$Folder;I)I"⟩, 7) := ⟨⟨by decide +kernel, by decide +kernel⟩, List.mem_of_getElem? (i := 8) (by decide +kernel), List.mem_of_getElem? (i := 406) (by decide +kernel), List.mem_of_getElem? (i := 407) (by decide +kernel)⟩
theorem lw_p21 : lw_okq (⟨"FlashTree", "isWithin", "(II)Z"⟩, 7) := ⟨⟨by decide +kernel, by decide +kernel⟩, List.mem_of_getElem? (i := 8) (by decide +kernel), List.mem_of_getElem? (i := 410) (by decide +kernel), List.mem_of_getElem? (i := 411) (by decide +kernel)⟩
theorem lw_p22 : lw_okq (⟨"FlashTree", "moveWithin", "(LFlashTree$Folder;II)Z"⟩, 7) := ⟨⟨by decide +kernel, by decide +kernel⟩, List.mem_of_getElem? (i := 8) (by decide +kernel), List.mem_of_getElem? (i := 414) (by decide +kernel), List.mem_of_getElem? (i := 415) (by decide +kernel)⟩
theorem lw_p23 : lw_okq (⟨"FlashTree", "moveAcross", "(LFlashTree$Folder;ILFlashTree$Folder;I)Z"⟩, 7) := ⟨⟨by decide +kernel, by decide +kernel⟩, List.mem_of_getElem? (i := 8) (by decide +kernel), List.mem_of_getElem? (i := 420) (by decide +kernel), List.mem_of_getElem? (i := 421) (by decide +kernel)⟩
theorem lw_p24 : lw_okq (⟨"FlashTreeModel", "beginPair", "(I)Z"⟩, 19) := ⟨⟨by decide +kernel, by decide +kernel⟩, List.mem_of_getElem? (i := 477) (by decide +kernel), List.mem_of_getElem? (i := 557) (by decide +kernel), List.mem_of_getElem? (i := 558) (by decide +kernel)⟩
theorem lw_p25 : lw_okq (⟨"FlashTreeModel", "read", "(I)I"⟩, 19) := ⟨⟨by decide +kernel, by decide +kernel⟩, List.mem_of_getElem? (i := 477) (by decide +kernel), List.mem_of_getElem? (i := 561) (by decide +kernel), List.mem_of_getElem? (i := 562) (by decide +kernel)⟩
theorem lw_p26 : lw_okq (⟨"FlashTreeModel", "active", "(I)I"⟩, 19) := ⟨⟨by decide +kernel, by decide +kernel⟩, List.mem_of_getElem? (i := 477) (by decide +kernel), List.mem_of_getElem? (i := 565) (by decide +kernel), List.mem_of_getElem? (i := 566) (by decide +kernel)⟩
theorem lw_p27 : lw_okq (⟨"FlashTreeModel", "counts", "(I)Z"⟩, 19) := ⟨⟨by decide +kernel, by decide +kernel⟩, List.mem_of_getElem? (i := 477) (by decide +kernel), List.mem_of_getElem? (i := 569) (by decide +kernel), List.mem_of_getElem? (i := 570) (by decide +kernel)⟩
theorem lw_p28 : lw_okq (⟨"FlashTreeModel", "apply", "([III)V"⟩, 19) := ⟨⟨by decide +kernel, by decide +kernel⟩, List.mem_of_getElem? (i := 477) (by decide +kernel), List.mem_of_getElem? (i := 573) (by decide +kernel), List.mem_of_getElem? (i := 574) (by decide +kernel)⟩
theorem lw_p29 : lw_okq (⟨"FlashTreeModel", "put", "(IIIJ)V"⟩, 19) := ⟨⟨by decide +kernel, by decide +kernel⟩, List.mem_of_getElem? (i := 477) (by decide +kernel), List.mem_of_getElem? (i := 577) (by decide +kernel), List.mem_of_getElem? (i := 578) (by decide +kernel)⟩
theorem lw_p30 : lw_okq (⟨"FlashTreeModel", "at", "(I)I"⟩, 19) := ⟨⟨by decide +kernel, by decide +kernel⟩, List.mem_of_getElem? (i := 477) (by decide +kernel), List.mem_of_getElem? (i := 581) (by decide +kernel), List.mem_of_getElem? (i := 582) (by decide +kernel)⟩
theorem lw_p31 : lw_okq (⟨"FlashTreeModel", "take", "(I)V"⟩, 19) := ⟨⟨by decide +kernel, by decide +kernel⟩, List.mem_of_getElem? (i := 477) (by decide +kernel), List.mem_of_getElem? (i := 585) (by decide +kernel), List.mem_of_getElem? (i := 586) (by decide +kernel)⟩
def lw_privs_2 : List (MethodName × Nat) := [(⟨"FlashTree", "folderThere", "(I)LFlashTree$Folder;"⟩, 7), (⟨"FlashTree", "refusal", "()I"⟩, 7), (⟨"FlashTree", "lowestFreePair", "()I"⟩, 7), (⟨"FlashTree", "ended", "(ZI)I"⟩, 7), (⟨"FlashTree", "moveRefusal", "(LFlashTree$Folder;ILFlashTree$Folder;I)I"⟩, 7), (⟨"FlashTree", "isWithin", "(II)Z"⟩, 7), (⟨"FlashTree", "moveWithin", "(LFlashTree$Folder;II)Z"⟩, 7), (⟨"FlashTree", "moveAcross", "(LFlashTree$Folder;ILFlashTree$Folder;I)Z"⟩, 7), (⟨"FlashTreeModel", "beginPair", "(I)Z"⟩, 19), (⟨"FlashTreeModel", "read", "(I)I"⟩, 19), (⟨"FlashTreeModel", "active", "(I)I"⟩, 19), (⟨"FlashTreeModel", "counts", "(I)Z"⟩, 19), (⟨"FlashTreeModel", "apply", "([III)V"⟩, 19), (⟨"FlashTreeModel", "put", "(IIIJ)V"⟩, 19), (⟨"FlashTreeModel", "at", "(I)I"⟩, 19), (⟨"FlashTreeModel", "take", "(I)V"⟩, 19)]
theorem lw_r2 : ∀ q ∈ lw_privs_2, lw_okq q := List.forall_mem_cons.mpr ⟨lw_p16, List.forall_mem_cons.mpr ⟨lw_p17, List.forall_mem_cons.mpr ⟨lw_p18, List.forall_mem_cons.mpr ⟨lw_p19, List.forall_mem_cons.mpr ⟨lw_p20, List.forall_mem_cons.mpr ⟨lw_p21, List.forall_mem_cons.mpr ⟨lw_p22, List.forall_mem_cons.mpr ⟨lw_p23, List.forall_mem_cons.mpr ⟨lw_p24, List.forall_mem_cons.mpr ⟨lw_p25, List.forall_mem_cons.mpr ⟨lw_p26, List.forall_mem_cons.mpr ⟨lw_p27, List.forall_mem_cons.mpr ⟨lw_p28, List.forall_mem_cons.mpr ⟨lw_p29, List.forall_mem_cons.mpr ⟨lw_p30, List.forall_mem_cons.mpr ⟨lw_p31, fun _ h => absurd h List.not_mem_nil⟩⟩⟩⟩⟩⟩⟩⟩⟩⟩⟩⟩⟩⟩⟩⟩
theorem lw_p32 : lw_okq (⟨"FlashTreeModel", "erase", "(I)Z"⟩, 19) := ⟨⟨by decide +kernel, by decide +kernel⟩, List.mem_of_getElem? (i := 477) (by decide +kernel), List.mem_of_getElem? (i := 589) (by decide +kernel), List.mem_of_getElem? (i := 590) (by decide +kernel)⟩
theorem lw_p33 : lw_okq (⟨"FlashTreeModel", "spend", "()Z"⟩, 19) := ⟨⟨by decide +kernel, by decide +kernel⟩, List.mem_of_getElem? (i := 477) (by decide +kernel), List.mem_of_getElem? (i := 593) (by decide +kernel), List.mem_of_getElem? (i := 594) (by decide +kernel)⟩
theorem lw_p34 : lw_okq (⟨"FlashTreeModel", "program", "(II)Z"⟩, 19) := ⟨⟨by decide +kernel, by decide +kernel⟩, List.mem_of_getElem? (i := 477) (by decide +kernel), List.mem_of_getElem? (i := 597) (by decide +kernel), List.mem_of_getElem? (i := 598) (by decide +kernel)⟩
theorem lw_p35 : lw_okq (⟨"FlashTreeModel", "record", "(II[II)Z"⟩, 19) := ⟨⟨by decide +kernel, by decide +kernel⟩, List.mem_of_getElem? (i := 477) (by decide +kernel), List.mem_of_getElem? (i := 601) (by decide +kernel), List.mem_of_getElem? (i := 602) (by decide +kernel)⟩
theorem lw_p36 : lw_okq (⟨"FlashTreeModel", "writeAnew", "(I)Z"⟩, 19) := ⟨⟨by decide +kernel, by decide +kernel⟩, List.mem_of_getElem? (i := 477) (by decide +kernel), List.mem_of_getElem? (i := 605) (by decide +kernel), List.mem_of_getElem? (i := 606) (by decide +kernel)⟩
theorem lw_p37 : lw_okq (⟨"FlashTreeModel", "add", "(I)V"⟩, 19) := ⟨⟨by decide +kernel, by decide +kernel⟩, List.mem_of_getElem? (i := 477) (by decide +kernel), List.mem_of_getElem? (i := 609) (by decide +kernel), List.mem_of_getElem? (i := 610) (by decide +kernel)⟩
theorem lw_p38 : lw_okq (⟨"FlashTreeModel", "done", "(ZI)I"⟩, 19) := ⟨⟨by decide +kernel, by decide +kernel⟩, List.mem_of_getElem? (i := 477) (by decide +kernel), List.mem_of_getElem? (i := 613) (by decide +kernel), List.mem_of_getElem? (i := 614) (by decide +kernel)⟩
theorem lw_p39 : lw_okq (⟨"FlashTreeModel", "from", "(I)I"⟩, 19) := ⟨⟨by decide +kernel, by decide +kernel⟩, List.mem_of_getElem? (i := 477) (by decide +kernel), List.mem_of_getElem? (i := 621) (by decide +kernel), List.mem_of_getElem? (i := 622) (by decide +kernel)⟩
theorem lw_p40 : lw_okq (⟨"FlashTreeModel", "say", "(I)V"⟩, 19) := ⟨⟨by decide +kernel, by decide +kernel⟩, List.mem_of_getElem? (i := 477) (by decide +kernel), List.mem_of_getElem? (i := 625) (by decide +kernel), List.mem_of_getElem? (i := 626) (by decide +kernel)⟩
theorem lw_p41 : lw_okq (⟨"FlashTreeModel", "commit", "(I)Z"⟩, 19) := ⟨⟨by decide +kernel, by decide +kernel⟩, List.mem_of_getElem? (i := 477) (by decide +kernel), List.mem_of_getElem? (i := 629) (by decide +kernel), List.mem_of_getElem? (i := 630) (by decide +kernel)⟩
theorem lw_p42 : lw_okq (⟨"FlashTreeModel", "ready", "()I"⟩, 19) := ⟨⟨by decide +kernel, by decide +kernel⟩, List.mem_of_getElem? (i := 477) (by decide +kernel), List.mem_of_getElem? (i := 637) (by decide +kernel), List.mem_of_getElem? (i := 638) (by decide +kernel)⟩
theorem lw_p43 : lw_okq (⟨"FlashTreeModel", "there", "(I)Z"⟩, 19) := ⟨⟨by decide +kernel, by decide +kernel⟩, List.mem_of_getElem? (i := 477) (by decide +kernel), List.mem_of_getElem? (i := 641) (by decide +kernel), List.mem_of_getElem? (i := 642) (by decide +kernel)⟩
theorem lw_p44 : lw_okq (⟨"FlashTreeModel", "sayEntry", "(IIIJ)V"⟩, 19) := ⟨⟨by decide +kernel, by decide +kernel⟩, List.mem_of_getElem? (i := 477) (by decide +kernel), List.mem_of_getElem? (i := 660) (by decide +kernel), List.mem_of_getElem? (i := 661) (by decide +kernel)⟩
theorem lw_p45 : lw_okq (⟨"FlashTreeModel", "find", "(II)I"⟩, 19) := ⟨⟨by decide +kernel, by decide +kernel⟩, List.mem_of_getElem? (i := 477) (by decide +kernel), List.mem_of_getElem? (i := 672) (by decide +kernel), List.mem_of_getElem? (i := 673) (by decide +kernel)⟩
def lw_privs_3 : List (MethodName × Nat) := [(⟨"FlashTreeModel", "erase", "(I)Z"⟩, 19), (⟨"FlashTreeModel", "spend", "()Z"⟩, 19), (⟨"FlashTreeModel", "program", "(II)Z"⟩, 19), (⟨"FlashTreeModel", "record", "(II[II)Z"⟩, 19), (⟨"FlashTreeModel", "writeAnew", "(I)Z"⟩, 19), (⟨"FlashTreeModel", "add", "(I)V"⟩, 19), (⟨"FlashTreeModel", "done", "(ZI)I"⟩, 19), (⟨"FlashTreeModel", "from", "(I)I"⟩, 19), (⟨"FlashTreeModel", "say", "(I)V"⟩, 19), (⟨"FlashTreeModel", "commit", "(I)Z"⟩, 19), (⟨"FlashTreeModel", "ready", "()I"⟩, 19), (⟨"FlashTreeModel", "there", "(I)Z"⟩, 19), (⟨"FlashTreeModel", "sayEntry", "(IIIJ)V"⟩, 19), (⟨"FlashTreeModel", "find", "(II)I"⟩, 19)]
theorem lw_r3 : ∀ q ∈ lw_privs_3, lw_okq q := List.forall_mem_cons.mpr ⟨lw_p32, List.forall_mem_cons.mpr ⟨lw_p33, List.forall_mem_cons.mpr ⟨lw_p34, List.forall_mem_cons.mpr ⟨lw_p35, List.forall_mem_cons.mpr ⟨lw_p36, List.forall_mem_cons.mpr ⟨lw_p37, List.forall_mem_cons.mpr ⟨lw_p38, List.forall_mem_cons.mpr ⟨lw_p39, List.forall_mem_cons.mpr ⟨lw_p40, List.forall_mem_cons.mpr ⟨lw_p41, List.forall_mem_cons.mpr ⟨lw_p42, List.forall_mem_cons.mpr ⟨lw_p43, List.forall_mem_cons.mpr ⟨lw_p44, List.forall_mem_cons.mpr ⟨lw_p45, fun _ h => absurd h List.not_mem_nil⟩⟩⟩⟩⟩⟩⟩⟩⟩⟩⟩⟩⟩⟩
def lw_privs : List (MethodName × Nat) := lw_privs_1 ++ (lw_privs_2 ++ (lw_privs_3))
def lw_tbl : List Cond := k2_sels lw_privs ++ tables_1
theorem lw_privs_ok : ∀ q ∈ lw_privs, lw_okq q := by
  show ∀ q ∈ lw_privs_1 ++ (lw_privs_2 ++ (lw_privs_3)), lw_okq q
  exact List.forall_mem_append.mpr ⟨lw_r1, List.forall_mem_append.mpr ⟨lw_r2, lw_r3⟩⟩
end
section
def RX0 : String := "FlashTree$Flash"
def TX0 : u_T := fun k => match k with
  | 0 => ("FlashTree$Flash", "cells", "[I", true)
  | 1 => ("FlashTree$Flash", "erasures", "[I", true)
  | 2 => ("FlashTree$Flash", "done", "I", false)
  | 3 => ("FlashTree$Flash", "left", "I", false)
  | _ => ("FlashTree$Flash", "dark", "Z", false)
def tyX0 : Nat → FieldType := fun k => match k with
  | 0 => .array .int
  | 1 => .array .int
  | 2 => .int
  | 3 => .int
  | _ => .boolean
theorem nmX0 : ∀ a, a < 5 → ∀ b, b < 5 → a ≠ b → (TX0 a).2.1 ≠ (TX0 b).2.1 := by decide +kernel
theorem tyX0_ok : ∀ k, k < 5 → parseFieldDescriptor (TX0 k).2.2.1 = some (tyX0 k) := by decide +kernel
def RX1 : String := "FlashTree$Folder"
def TX1 : u_T := fun k => match k with
  | 0 => ("FlashTree$Folder", "pair", "I", true)
  | 1 => ("FlashTree$Folder", "flash", "LFlashTree$Flash;", true)
  | 2 => ("FlashTree$Folder", "scratch", "LFlashTree$Operations;", true)
  | _ => ("FlashTree$Folder", "list", "LFlashTree$Listing;", true)
def tyX1 : Nat → FieldType := fun k => match k with
  | 0 => .int
  | 1 => .object "FlashTree$Flash"
  | 2 => .object "FlashTree$Operations"
  | _ => .object "FlashTree$Listing"
theorem nmX1 : ∀ a, a < 4 → ∀ b, b < 4 → a ≠ b → (TX1 a).2.1 ≠ (TX1 b).2.1 := by decide +kernel
theorem tyX1_ok : ∀ k, k < 4 → parseFieldDescriptor (TX1 k).2.2.1 = some (tyX1 k) := by decide +kernel
def RX2 : String := "FlashTree$Listing"
def TX2 : u_T := fun k => match k with
  | 0 => ("FlashTree$Listing", "names", "[I", true)
  | 1 => ("FlashTree$Listing", "pairs", "[I", true)
  | 2 => ("FlashTree$Listing", "lengths", "[I", true)
  | 3 => ("FlashTree$Listing", "contents", "[J", true)
  | 4 => ("FlashTree$Listing", "count", "I", false)
  | 5 => ("FlashTree$Listing", "markPair", "I", false)
  | _ => ("FlashTree$Listing", "markName", "I", false)
def tyX2 : Nat → FieldType := fun k => match k with
  | 0 => .array .int
  | 1 => .array .int
  | 2 => .array .int
  | 3 => .array .long
  | 4 => .int
  | 5 => .int
  | _ => .int
theorem nmX2 : ∀ a, a < 7 → ∀ b, b < 7 → a ≠ b → (TX2 a).2.1 ≠ (TX2 b).2.1 := by decide +kernel
theorem tyX2_ok : ∀ k, k < 7 → parseFieldDescriptor (TX2 k).2.2.1 = some (tyX2 k) := by decide +kernel
def RX3 : String := "FlashTree$Operations"
def TX3 : u_T := fun k => match k with
  | 0 => ("FlashTree$Operations", "bytes", "[I", true)
  | _ => ("FlashTree$Operations", "length", "I", false)
def tyX3 : Nat → FieldType := fun k => match k with
  | 0 => .array .int
  | _ => .int
theorem nmX3 : ∀ a, a < 2 → ∀ b, b < 2 → a ≠ b → (TX3 a).2.1 ≠ (TX3 b).2.1 := by decide +kernel
theorem tyX3_ok : ∀ k, k < 2 → parseFieldDescriptor (TX3 k).2.2.1 = some (tyX3 k) := by decide +kernel
def RX4 : String := "FlashTree"
def TX4 : u_T := fun k => match k with
  | 0 => ("FlashTree", "flash", "LFlashTree$Flash;", true)
  | 1 => ("FlashTree", "folders", "[LFlashTree$Folder;", true)
  | 2 => ("FlashTree", "there", "[Z", true)
  | 3 => ("FlashTree", "below", "[Z", true)
  | 4 => ("FlashTree", "queue", "[I", true)
  | 5 => ("FlashTree", "change", "LFlashTree$Operations;", true)
  | _ => ("FlashTree", "mounted", "Z", false)
def tyX4 : Nat → FieldType := fun k => match k with
  | 0 => .object "FlashTree$Flash"
  | 1 => .array (.object "FlashTree$Folder")
  | 2 => .array .boolean
  | 3 => .array .boolean
  | 4 => .array .int
  | 5 => .object "FlashTree$Operations"
  | _ => .boolean
theorem nmX4 : ∀ a, a < 7 → ∀ b, b < 7 → a ≠ b → (TX4 a).2.1 ≠ (TX4 b).2.1 := by decide +kernel
theorem tyX4_ok : ∀ k, k < 7 → parseFieldDescriptor (TX4 k).2.2.1 = some (tyX4 k) := by decide +kernel
def RX5 : String := "FlashTreeModel"
def TX5 : u_T := fun k => match k with
  | 0 => ("FlashTreeModel", "flash", "[I", true)
  | 1 => ("FlashTreeModel", "wears", "[I", true)
  | 2 => ("FlashTreeModel", "off", "Z", false)
  | 3 => ("FlashTreeModel", "mounted", "Z", false)
  | 4 => ("FlashTreeModel", "cutSet", "Z", false)
  | 5 => ("FlashTreeModel", "left", "I", false)
  | 6 => ("FlashTreeModel", "units", "I", false)
  | 7 => ("FlashTreeModel", "names", "[I", true)
  | 8 => ("FlashTreeModel", "kinds", "[I", true)
  | 9 => ("FlashTreeModel", "args", "[I", true)
  | 10 => ("FlashTreeModel", "bytes", "[J", true)
  | 11 => ("FlashTreeModel", "count", "I", false)
  | 12 => ("FlashTreeModel", "markPair", "I", false)
  | 13 => ("FlashTreeModel", "markName", "I", false)
  | 14 => ("FlashTreeModel", "end", "I", false)
  | 15 => ("FlashTreeModel", "ops", "[I", true)
  | 16 => ("FlashTreeModel", "length", "I", false)
  | 17 => ("FlashTreeModel", "anew", "[I", true)
  | _ => ("FlashTreeModel", "much", "I", false)
def tyX5 : Nat → FieldType := fun k => match k with
  | 0 => .array .int
  | 1 => .array .int
  | 2 => .boolean
  | 3 => .boolean
  | 4 => .boolean
  | 5 => .int
  | 6 => .int
  | 7 => .array .int
  | 8 => .array .int
  | 9 => .array .int
  | 10 => .array .long
  | 11 => .int
  | 12 => .int
  | 13 => .int
  | 14 => .int
  | 15 => .array .int
  | 16 => .int
  | 17 => .array .int
  | _ => .int
theorem nmX5 : ∀ a, a < 19 → ∀ b, b < 19 → a ≠ b → (TX5 a).2.1 ≠ (TX5 b).2.1 := by decide +kernel
theorem tyX5_ok : ∀ k, k < 19 → parseFieldDescriptor (TX5 k).2.2.1 = some (tyX5 k) := by decide +kernel
abbrev vwCl : List vw_C := [(RX0, TX0, 5), (RX1, TX1, 4), (RX2, TX2, 7), (RX3, TX3, 2), (RX4, TX4, 7), (RX5, TX5, 19)]
/-- the type of slot k of class ci -/
def ftyS : List (Nat → FieldType) := [tyX0, tyX1, tyX2, tyX3, tyX4, tyX5]
def fty (ci k : Nat) : FieldType := (ftyS.getD ci (fun _ => .int)) k
def cNames : List String := ["FlashTree$Flash", "FlashTree$Folder", "FlashTree$Listing", "FlashTree$Operations", "FlashTree", "FlashTreeModel", "FlashTreeLaw"]
def cName (i : Nat) : String := cNames.getD i ""
end
section
/-- an instruction, its length, what it links: a field by 32 * class + slot, a method by its number (999: Object.<init>), a class, a constant by its place -/
abbrev Ent : Type := Instr × Nat × Nat
/-- FlashTree$Flash.<init> ()V -/
def K0 : List (Option Ent) := [some (.aload_n 0, 1, 0), some (.invokespecial 3, 3, 999), none, none, some (.aload_n 0, 1, 0), some (.sipush 1024, 3, 0), none, none, some (.newarray .int, 2, 0), none, some (.putfield 9, 3, 0), none, none, some (.aload_n 0, 1, 0), some (.bipush 16, 2, 0), none, some (.newarray .int, 2, 0), none, some (.putfield 15, 3, 1), none, none, some (.aload_n 0, 1, 0), some (.iconst 0, 1, 0), some (.putfield 18, 3, 2), none, none, some (.aload_n 0, 1, 0), some (.iconst (-1), 1, 0), some (.putfield 22, 3, 3), none, none, some (.aload_n 0, 1, 0), some (.iconst 0, 1, 0), some (.putfield 25, 3, 4), none, none, some (.iconst 0, 1, 0), some (.istore_n 1, 1, 0), some (.iload_n 1, 1, 0), some (.aload_n 0, 1, 0), some (.getfield 9, 3, 0), none, none, some (.arraylength, 1, 0), some (.if_icmp .ge 18, 3, 0), none, none, some (.aload_n 0, 1, 0), some (.getfield 9, 3, 0), none, none, some (.iload_n 1, 1, 0), some (.sipush 255, 3, 0), none, none, some (.iastore, 1, 0), some (.iinc 1 1, 3, 0), none, none, some (.goto (-21), 3, 0), none, none, some (.return_, 1, 0)]
/-- FlashTree$Flash.setCut (I)V -/
def K1 : List (Option Ent) := [some (.aload_n 0, 1, 0), some (.iload_n 1, 1, 0), some (.ifCond .ge 7, 3, 0), none, none, some (.iconst (-1), 1, 0), some (.goto 4, 3, 0), none, none, some (.iload_n 1, 1, 0), some (.putfield 22, 3, 3), none, none, some (.return_, 1, 0)]
/-- FlashTree$Flash.powerUp ()V -/
def K2 : List (Option Ent) := [some (.aload_n 0, 1, 0), some (.iconst 0, 1, 0), some (.putfield 25, 3, 4), none, none, some (.return_, 1, 0)]
/-- FlashTree$Flash.isDark ()Z -/
def K3 : List (Option Ent) := [some (.aload_n 0, 1, 0), some (.getfield 25, 3, 4), none, none, some (.ireturn, 1, 0)]
/-- FlashTree$Flash.unitsDone ()I -/
def K4 : List (Option Ent) := [some (.aload_n 0, 1, 0), some (.getfield 18, 3, 2), none, none, some (.ireturn, 1, 0)]
/-- FlashTree$Flash.erasuresOf (I)I -/
def K5 : List (Option Ent) := [some (.iload_n 1, 1, 0), some (.invokestatic 29, 3, 11), none, none, some (.ifCond .eq 12, 3, 0), none, none, some (.aload_n 0, 1, 0), some (.getfield 15, 3, 1), none, none, some (.iload_n 1, 1, 0), some (.iaload, 1, 0), some (.goto 4, 3, 0), none, none, some (.iconst (-1), 1, 0), some (.ireturn, 1, 0)]
/-- FlashTree$Flash.peek (II)I -/
def K6 : List (Option Ent) := [some (.iload_n 1, 1, 0), some (.invokestatic 29, 3, 11), none, none, some (.ifCond .eq 24, 3, 0), none, none, some (.iload_n 2, 1, 0), some (.invokestatic 33, 3, 12), none, none, some (.ifCond .eq 17, 3, 0), none, none, some (.aload_n 0, 1, 0), some (.getfield 9, 3, 0), none, none, some (.iload_n 1, 1, 0), some (.bipush 64, 2, 0), none, some (.imul, 1, 0), some (.iload_n 2, 1, 0), some (.iadd, 1, 0), some (.iaload, 1, 0), some (.goto 4, 3, 0), none, none, some (.iconst (-1), 1, 0), some (.ireturn, 1, 0)]
/-- FlashTree$Flash.program (III)Z -/
def K7 : List (Option Ent) := [some (.iload_n 1, 1, 0), some (.invokestatic 29, 3, 11), none, none, some (.ifCond .eq 17, 3, 0), none, none, some (.iload_n 2, 1, 0), some (.invokestatic 33, 3, 12), none, none, some (.ifCond .eq 10, 3, 0), none, none, some (.aload_n 0, 1, 0), some (.invokevirtual 36, 3, 10), none, none, some (.ifCond .ne 5, 3, 0), none, none, some (.iconst 0, 1, 0), some (.ireturn, 1, 0), some (.aload_n 0, 1, 0), some (.getfield 9, 3, 0), none, none, some (.iload_n 1, 1, 0), some (.bipush 64, 2, 0), none, some (.imul, 1, 0), some (.iload_n 2, 1, 0), some (.iadd, 1, 0), some (.iload_n 3, 1, 0), some (.sipush 255, 3, 0), none, none, some (.iand, 1, 0), some (.iastore, 1, 0), some (.iconst 1, 1, 0), some (.ireturn, 1, 0)]
/-- FlashTree$Flash.erase (I)Z -/
def K8 : List (Option Ent) := [some (.iload_n 1, 1, 0), some (.invokestatic 29, 3, 11), none, none, some (.ifCond .eq 10, 3, 0), none, none, some (.aload_n 0, 1, 0), some (.invokevirtual 36, 3, 10), none, none, some (.ifCond .ne 5, 3, 0), none, none, some (.iconst 0, 1, 0), some (.ireturn, 1, 0), some (.iconst 0, 1, 0), some (.istore_n 2, 1, 0), some (.iload_n 2, 1, 0), some (.bipush 64, 2, 0), none, some (.if_icmp .ge 23, 3, 0), none, none, some (.aload_n 0, 1, 0), some (.getfield 9, 3, 0), none, none, some (.iload_n 1, 1, 0), some (.bipush 64, 2, 0), none, some (.imul, 1, 0), some (.iload_n 2, 1, 0), some (.iadd, 1, 0), some (.sipush 255, 3, 0), none, none, some (.iastore, 1, 0), some (.iinc 2 1, 3, 0), none, none, some (.goto (-23), 3, 0), none, none, some (.aload_n 0, 1, 0), some (.getfield 15, 3, 1), none, none, some (.iload_n 1, 1, 0), some (.dup2, 1, 0), some (.iaload, 1, 0), some (.iconst 1, 1, 0), some (.iadd, 1, 0), some (.iastore, 1, 0), some (.iconst 1, 1, 0), some (.ireturn, 1, 0)]
/-- FlashTree$Flash.behindRecord (II)I -/
def K9 : List (Option Ent) := [some (.aload_n 0, 1, 0), some (.iload_n 1, 1, 0), some (.iload_n 2, 1, 0), some (.invokevirtual 40, 3, 6), none, none, some (.istore_n 3, 1, 0), some (.iload_n 3, 1, 0), some (.iconst (-1), 1, 0), some (.if_icmp .ne 5, 3, 0), none, none, some (.iconst (-1), 1, 0), some (.ireturn, 1, 0), some (.iload_n 2, 1, 0), some (.iconst 1, 1, 0), some (.iadd, 1, 0), some (.iload_n 3, 1, 0), some (.iadd, 1, 0), some (.istore 4, 2, 0), none, some (.aload_n 0, 1, 0), some (.iload_n 1, 1, 0), some (.iload 4, 2, 0), none, some (.invokevirtual 40, 3, 6), none, none, some (.ifCond .ne 10, 3, 0), none, none, some (.iload 4, 2, 0), none, some (.iconst 1, 1, 0), some (.iadd, 1, 0), some (.goto 4, 3, 0), none, none, some (.iconst (-1), 1, 0), some (.ireturn, 1, 0)]
/-- FlashTree$Flash.spendUnit ()Z -/
def K10 : List (Option Ent) := [some (.aload_n 0, 1, 0), some (.getfield 22, 3, 3), none, none, some (.ifCond .ne 13, 3, 0), none, none, some (.aload_n 0, 1, 0), some (.iconst (-1), 1, 0), some (.putfield 22, 3, 3), none, none, some (.aload_n 0, 1, 0), some (.iconst 1, 1, 0), some (.putfield 25, 3, 4), none, none, some (.aload_n 0, 1, 0), some (.getfield 25, 3, 4), none, none, some (.ifCond .eq 5, 3, 0), none, none, some (.iconst 0, 1, 0), some (.ireturn, 1, 0), some (.aload_n 0, 1, 0), some (.getfield 22, 3, 3), none, none, some (.ifCond .le 13, 3, 0), none, none, some (.aload_n 0, 1, 0), some (.dup, 1, 0), some (.getfield 22, 3, 3), none, none, some (.iconst 1, 1, 0), some (.isub, 1, 0), some (.putfield 22, 3, 3), none, none, some (.aload_n 0, 1, 0), some (.dup, 1, 0), some (.getfield 18, 3, 2), none, none, some (.iconst 1, 1, 0), some (.iadd, 1, 0), some (.putfield 18, 3, 2), none, none, some (.iconst 1, 1, 0), some (.ireturn, 1, 0)]
/-- FlashTree$Flash.isBlock (I)Z -/
def K11 : List (Option Ent) := [some (.iload_n 0, 1, 0), some (.ifCond .lt 13, 3, 0), none, none, some (.iload_n 0, 1, 0), some (.bipush 16, 2, 0), none, some (.if_icmp .ge 7, 3, 0), none, none, some (.iconst 1, 1, 0), some (.goto 4, 3, 0), none, none, some (.iconst 0, 1, 0), some (.ireturn, 1, 0)]
/-- FlashTree$Flash.isOffset (I)Z -/
def K12 : List (Option Ent) := [some (.iload_n 0, 1, 0), some (.ifCond .lt 13, 3, 0), none, none, some (.iload_n 0, 1, 0), some (.bipush 64, 2, 0), none, some (.if_icmp .ge 7, 3, 0), none, none, some (.iconst 1, 1, 0), some (.goto 4, 3, 0), none, none, some (.iconst 0, 1, 0), some (.ireturn, 1, 0)]
/-- FlashTree$Folder.<init> (ILFlashTree$Flash;LFlashTree$Operations;)V -/
def K13 : List (Option Ent) := [some (.aload_n 0, 1, 0), some (.invokespecial 3, 3, 999), none, none, some (.aload_n 0, 1, 0), some (.iload_n 1, 1, 0), some (.putfield 9, 3, 32), none, none, some (.aload_n 0, 1, 0), some (.aload_n 2, 1, 0), some (.putfield 15, 3, 33), none, none, some (.aload_n 0, 1, 0), some (.aload_n 3, 1, 0), some (.putfield 19, 3, 34), none, none, some (.aload_n 0, 1, 0), some (.new 23, 3, 2), none, none, some (.dup, 1, 0), some (.invokespecial 25, 3, 23), none, none, some (.putfield 26, 3, 35), none, none, some (.return_, 1, 0)]
/-- FlashTree$Folder.activeBlock ()I -/
def K14 : List (Option Ent) := [some (.iconst 2, 1, 0), some (.aload_n 0, 1, 0), some (.getfield 9, 3, 32), none, none, some (.imul, 1, 0), some (.istore_n 1, 1, 0), some (.iload_n 1, 1, 0), some (.iconst 1, 1, 0), some (.iadd, 1, 0), some (.istore_n 2, 1, 0), some (.aload_n 0, 1, 0), some (.getfield 15, 3, 33), none, none, some (.iload_n 1, 1, 0), some (.iconst 1, 1, 0), some (.invokevirtual 30, 3, 9), none, none, some (.iconst (-1), 1, 0), some (.if_icmp .eq 7, 3, 0), none, none, some (.iconst 1, 1, 0), some (.goto 4, 3, 0), none, none, some (.iconst 0, 1, 0), some (.istore_n 3, 1, 0), some (.aload_n 0, 1, 0), some (.getfield 15, 3, 33), none, none, some (.iload_n 2, 1, 0), some (.iconst 1, 1, 0), some (.invokevirtual 30, 3, 9), none, none, some (.iconst (-1), 1, 0), some (.if_icmp .eq 7, 3, 0), none, none, some (.iconst 1, 1, 0), some (.goto 4, 3, 0), none, none, some (.iconst 0, 1, 0), some (.istore 4, 2, 0), none, some (.iload_n 3, 1, 0), some (.ifCond .eq 23, 3, 0), none, none, some (.iload 4, 2, 0), none, some (.ifCond .eq 18, 3, 0), none, none, some (.aload_n 0, 1, 0), some (.iload_n 2, 1, 0), some (.iload_n 1, 1, 0), some (.invokevirtual 36, 3, 18), none, none, some (.ifCond .eq 7, 3, 0), none, none, some (.iload_n 2, 1, 0), some (.goto 4, 3, 0), none, none, some (.iload_n 1, 1, 0), some (.ireturn, 1, 0), some (.iload_n 3, 1, 0), some (.ifCond .eq 5, 3, 0), none, none, some (.iload_n 1, 1, 0), some (.ireturn, 1, 0), some (.iload 4, 2, 0), none, some (.ifCond .eq 7, 3, 0), none, none, some (.iload_n 2, 1, 0), some (.goto 4, 3, 0), none, none, some (.iconst (-1), 1, 0), some (.ireturn, 1, 0)]
/-- FlashTree$Folder.load ()V -/
def K15 : List (Option Ent) := [some (.aload_n 0, 1, 0), some (.getfield 26, 3, 35), none, none, some (.invokevirtual 40, 3, 24), none, none, some (.aload_n 0, 1, 0), some (.invokevirtual 43, 3, 14), none, none, some (.istore_n 1, 1, 0), some (.iconst 1, 1, 0), some (.istore_n 2, 1, 0), some (.iconst 0, 1, 0), some (.istore_n 3, 1, 0), some (.iload_n 3, 1, 0), some (.bipush 64, 2, 0), none, some (.if_icmp .ge 47, 3, 0), none, none, some (.aload_n 0, 1, 0), some (.getfield 15, 3, 33), none, none, some (.iload_n 1, 1, 0), some (.iload_n 2, 1, 0), some (.invokevirtual 30, 3, 9), none, none, some (.istore 4, 2, 0), none, some (.iload 4, 2, 0), none, some (.iconst (-1), 1, 0), some (.if_icmp .ne 4, 3, 0), none, none, some (.return_, 1, 0), some (.aload_n 0, 1, 0), some (.iload_n 1, 1, 0), some (.iload_n 2, 1, 0), some (.invokevirtual 47, 3, 20), none, none, some (.aload_n 0, 1, 0), some (.getfield 26, 3, 35), none, none, some (.aload_n 0, 1, 0), some (.getfield 19, 3, 34), none, none, some (.invokevirtual 51, 3, 37), none, none, some (.iload 4, 2, 0), none, some (.istore_n 2, 1, 0), some (.iinc 3 1, 3, 0), none, none, some (.goto (-47), 3, 0), none, none, some (.return_, 1, 0)]
/-- FlashTree$Folder.begin ()Z -/
def K16 : List (Option Ent) := [some (.aload_n 0, 1, 0), some (.getfield 26, 3, 35), none, none, some (.invokevirtual 40, 3, 24), none, none, some (.aload_n 0, 1, 0), some (.aload_n 0, 1, 0), some (.invokevirtual 43, 3, 14), none, none, some (.invokevirtual 55, 3, 21), none, none, some (.ireturn, 1, 0)]
/-- FlashTree$Folder.commit (LFlashTree$Operations;)Z -/
def K17 : List (Option Ent) := [some (.aload_n 0, 1, 0), some (.getfield 26, 3, 35), none, none, some (.aload_n 1, 1, 0), some (.invokevirtual 51, 3, 37), none, none, some (.aload_n 0, 1, 0), some (.invokevirtual 43, 3, 14), none, none, some (.istore_n 2, 1, 0), some (.aload_n 0, 1, 0), some (.iload_n 2, 1, 0), some (.invokevirtual 59, 3, 19), none, none, some (.istore_n 3, 1, 0), some (.iload_n 3, 1, 0), some (.aload_n 1, 1, 0), some (.invokevirtual 63, 3, 44), none, none, some (.iadd, 1, 0), some (.iconst 2, 1, 0), some (.iadd, 1, 0), some (.bipush 64, 2, 0), none, some (.if_icmp .gt 26, 3, 0), none, none, some (.aload_n 0, 1, 0), some (.getfield 15, 3, 33), none, none, some (.iload_n 2, 1, 0), some (.iload_n 3, 1, 0), some (.invokevirtual 68, 3, 6), none, none, some (.sipush 255, 3, 0), none, none, some (.if_icmp .ne 11, 3, 0), none, none, some (.aload_n 0, 1, 0), some (.iload_n 2, 1, 0), some (.iload_n 3, 1, 0), some (.aload_n 1, 1, 0), some (.invokevirtual 71, 3, 22), none, none, some (.ireturn, 1, 0), some (.aload_n 0, 1, 0), some (.iload_n 2, 1, 0), some (.invokevirtual 55, 3, 21), none, none, some (.ireturn, 1, 0)]
/-- FlashTree$Folder.isNewer (II)Z -/
def K18 : List (Option Ent) := [some (.aload_n 0, 1, 0), some (.getfield 15, 3, 33), none, none, some (.iload_n 1, 1, 0), some (.iconst 0, 1, 0), some (.invokevirtual 68, 3, 6), none, none, some (.aload_n 0, 1, 0), some (.getfield 15, 3, 33), none, none, some (.iload_n 2, 1, 0), some (.iconst 0, 1, 0), some (.invokevirtual 68, 3, 6), none, none, some (.isub, 1, 0), some (.sipush 255, 3, 0), none, none, some (.iand, 1, 0), some (.istore_n 3, 1, 0), some (.iload_n 3, 1, 0), some (.iconst 1, 1, 0), some (.if_icmp .lt 13, 3, 0), none, none, some (.iload_n 3, 1, 0), some (.bipush 127, 2, 0), none, some (.if_icmp .gt 7, 3, 0), none, none, some (.iconst 1, 1, 0), some (.goto 4, 3, 0), none, none, some (.iconst 0, 1, 0), some (.ireturn, 1, 0)]
/-- FlashTree$Folder.logEnd (I)I -/
def K19 : List (Option Ent) := [some (.iconst 1, 1, 0), some (.istore_n 2, 1, 0), some (.iconst 0, 1, 0), some (.istore_n 3, 1, 0), some (.iload_n 3, 1, 0), some (.bipush 64, 2, 0), none, some (.if_icmp .ge 31, 3, 0), none, none, some (.aload_n 0, 1, 0), some (.getfield 15, 3, 33), none, none, some (.iload_n 1, 1, 0), some (.iload_n 2, 1, 0), some (.invokevirtual 30, 3, 9), none, none, some (.istore 4, 2, 0), none, some (.iload 4, 2, 0), none, some (.iconst (-1), 1, 0), some (.if_icmp .ne 5, 3, 0), none, none, some (.iload_n 2, 1, 0), some (.ireturn, 1, 0), some (.iload 4, 2, 0), none, some (.istore_n 2, 1, 0), some (.iinc 3 1, 3, 0), none, none, some (.goto (-31), 3, 0), none, none, some (.iload_n 2, 1, 0), some (.ireturn, 1, 0)]
/-- FlashTree$Folder.readOperations (II)V -/
def K20 : List (Option Ent) := [some (.aload_n 0, 1, 0), some (.getfield 15, 3, 33), none, none, some (.iload_n 1, 1, 0), some (.iload_n 2, 1, 0), some (.invokevirtual 68, 3, 6), none, none, some (.istore_n 3, 1, 0), some (.aload_n 0, 1, 0), some (.getfield 19, 3, 34), none, none, some (.invokevirtual 75, 3, 43), none, none, some (.iconst 0, 1, 0), some (.istore 4, 2, 0), none, some (.iload 4, 2, 0), none, some (.iload_n 3, 1, 0), some (.if_icmp .ge 37, 3, 0), none, none, some (.iload 4, 2, 0), none, some (.bipush 64, 2, 0), none, some (.if_icmp .ge 30, 3, 0), none, none, some (.aload_n 0, 1, 0), some (.getfield 19, 3, 34), none, none, some (.aload_n 0, 1, 0), some (.getfield 15, 3, 33), none, none, some (.iload_n 1, 1, 0), some (.iload_n 2, 1, 0), some (.iconst 1, 1, 0), some (.iadd, 1, 0), some (.iload 4, 2, 0), none, some (.iadd, 1, 0), some (.invokevirtual 68, 3, 6), none, none, some (.invokevirtual 76, 3, 46), none, none, some (.iinc 4 1, 3, 0), none, none, some (.goto (-37), 3, 0), none, none, some (.return_, 1, 0)]
/-- FlashTree$Folder.writeAnew (I)Z -/
def K21 : List (Option Ent) := [some (.iload_n 1, 1, 0), some (.iconst (-1), 1, 0), some (.if_icmp .ne 12, 3, 0), none, none, some (.iconst 2, 1, 0), some (.aload_n 0, 1, 0), some (.getfield 9, 3, 32), none, none, some (.imul, 1, 0), some (.goto 6, 3, 0), none, none, some (.iload_n 1, 1, 0), some (.iconst 1, 1, 0), some (.ixor, 1, 0), some (.istore_n 2, 1, 0), some (.iload_n 1, 1, 0), some (.iconst (-1), 1, 0), some (.if_icmp .ne 7, 3, 0), none, none, some (.iconst 0, 1, 0), some (.goto 18, 3, 0), none, none, some (.aload_n 0, 1, 0), some (.getfield 15, 3, 33), none, none, some (.iload_n 1, 1, 0), some (.iconst 0, 1, 0), some (.invokevirtual 68, 3, 6), none, none, some (.iconst 1, 1, 0), some (.iadd, 1, 0), some (.sipush 255, 3, 0), none, none, some (.iand, 1, 0), some (.istore_n 3, 1, 0), some (.aload_n 0, 1, 0), some (.getfield 19, 3, 34), none, none, some (.invokevirtual 75, 3, 43), none, none, some (.aload_n 0, 1, 0), some (.getfield 26, 3, 35), none, none, some (.aload_n 0, 1, 0), some (.getfield 19, 3, 34), none, none, some (.invokevirtual 80, 3, 36), none, none, some (.aload_n 0, 1, 0), some (.getfield 15, 3, 33), none, none, some (.iload_n 2, 1, 0), some (.invokevirtual 83, 3, 8), none, none, some (.ifCond .eq 33, 3, 0), none, none, some (.aload_n 0, 1, 0), some (.getfield 15, 3, 33), none, none, some (.iload_n 2, 1, 0), some (.iconst 0, 1, 0), some (.iload_n 3, 1, 0), some (.invokevirtual 86, 3, 7), none, none, some (.ifCond .eq 20, 3, 0), none, none, some (.aload_n 0, 1, 0), some (.iload_n 2, 1, 0), some (.iconst 1, 1, 0), some (.aload_n 0, 1, 0), some (.getfield 19, 3, 34), none, none, some (.invokevirtual 71, 3, 22), none, none, some (.ifCond .eq 7, 3, 0), none, none, some (.iconst 1, 1, 0), some (.goto 4, 3, 0), none, none, some (.iconst 0, 1, 0), some (.ireturn, 1, 0)]
/-- FlashTree$Folder.programRecord (IILFlashTree$Operations;)Z -/
def K22 : List (Option Ent) := [some (.aload_n 0, 1, 0), some (.getfield 15, 3, 33), none, none, some (.iload_n 1, 1, 0), some (.iload_n 2, 1, 0), some (.aload_n 3, 1, 0), some (.invokevirtual 63, 3, 44), none, none, some (.invokevirtual 86, 3, 7), none, none, some (.ifCond .ne 5, 3, 0), none, none, some (.iconst 0, 1, 0), some (.ireturn, 1, 0), some (.iconst 0, 1, 0), some (.istore 4, 2, 0), none, some (.iload 4, 2, 0), none, some (.aload_n 3, 1, 0), some (.invokevirtual 63, 3, 44), none, none, some (.if_icmp .ge 34, 3, 0), none, none, some (.aload_n 0, 1, 0), some (.getfield 15, 3, 33), none, none, some (.iload_n 1, 1, 0), some (.iload_n 2, 1, 0), some (.iconst 1, 1, 0), some (.iadd, 1, 0), some (.iload 4, 2, 0), none, some (.iadd, 1, 0), some (.aload_n 3, 1, 0), some (.iload 4, 2, 0), none, some (.invokevirtual 90, 3, 45), none, none, some (.invokevirtual 86, 3, 7), none, none, some (.ifCond .ne 5, 3, 0), none, none, some (.iconst 0, 1, 0), some (.ireturn, 1, 0), some (.iinc 4 1, 3, 0), none, none, some (.goto (-37), 3, 0), none, none, some (.aload_n 0, 1, 0), some (.getfield 15, 3, 33), none, none, some (.iload_n 1, 1, 0), some (.iload_n 2, 1, 0), some (.iconst 1, 1, 0), some (.iadd, 1, 0), some (.aload_n 3, 1, 0), some (.invokevirtual 63, 3, 44), none, none, some (.iadd, 1, 0), some (.iconst 0, 1, 0), some (.invokevirtual 86, 3, 7), none, none, some (.ireturn, 1, 0)]
/-- FlashTree$Listing.<init> ()V -/
def K23 : List (Option Ent) := [some (.aload_n 0, 1, 0), some (.invokespecial 3, 3, 999), none, none, some (.aload_n 0, 1, 0), some (.iconst 4, 1, 0), some (.newarray .int, 2, 0), none, some (.putfield 9, 3, 64), none, none, some (.aload_n 0, 1, 0), some (.iconst 4, 1, 0), some (.newarray .int, 2, 0), none, some (.putfield 15, 3, 65), none, none, some (.aload_n 0, 1, 0), some (.iconst 4, 1, 0), some (.newarray .int, 2, 0), none, some (.putfield 18, 3, 66), none, none, some (.aload_n 0, 1, 0), some (.iconst 4, 1, 0), some (.newarray .long, 2, 0), none, some (.putfield 21, 3, 67), none, none, some (.aload_n 0, 1, 0), some (.iconst 0, 1, 0), some (.putfield 25, 3, 68), none, none, some (.aload_n 0, 1, 0), some (.iconst (-1), 1, 0), some (.putfield 29, 3, 69), none, none, some (.aload_n 0, 1, 0), some (.iconst 0, 1, 0), some (.putfield 32, 3, 70), none, none, some (.return_, 1, 0)]
/-- FlashTree$Listing.clear ()V -/
def K24 : List (Option Ent) := [some (.aload_n 0, 1, 0), some (.iconst 0, 1, 0), some (.putfield 25, 3, 68), none, none, some (.aload_n 0, 1, 0), some (.iconst (-1), 1, 0), some (.putfield 29, 3, 69), none, none, some (.return_, 1, 0)]
/-- FlashTree$Listing.isEmpty ()Z -/
def K25 : List (Option Ent) := [some (.aload_n 0, 1, 0), some (.getfield 25, 3, 68), none, none, some (.ifCond .ne 7, 3, 0), none, none, some (.iconst 1, 1, 0), some (.goto 4, 3, 0), none, none, some (.iconst 0, 1, 0), some (.ireturn, 1, 0)]
/-- FlashTree$Listing.isFull ()Z -/
def K26 : List (Option Ent) := [some (.aload_n 0, 1, 0), some (.getfield 25, 3, 68), none, none, some (.iconst 4, 1, 0), some (.if_icmp .lt 7, 3, 0), none, none, some (.iconst 1, 1, 0), some (.goto 4, 3, 0), none, none, some (.iconst 0, 1, 0), some (.ireturn, 1, 0)]
/-- FlashTree$Listing.hasMark ()Z -/
def K27 : List (Option Ent) := [some (.aload_n 0, 1, 0), some (.getfield 29, 3, 69), none, none, some (.iconst (-1), 1, 0), some (.if_icmp .eq 7, 3, 0), none, none, some (.iconst 1, 1, 0), some (.goto 4, 3, 0), none, none, some (.iconst 0, 1, 0), some (.ireturn, 1, 0)]
/-- FlashTree$Listing.find (I)I -/
def K28 : List (Option Ent) := [some (.iconst 0, 1, 0), some (.istore_n 2, 1, 0), some (.iload_n 2, 1, 0), some (.aload_n 0, 1, 0), some (.getfield 25, 3, 68), none, none, some (.if_icmp .ge 26, 3, 0), none, none, some (.iload_n 2, 1, 0), some (.iconst 4, 1, 0), some (.if_icmp .ge 21, 3, 0), none, none, some (.aload_n 0, 1, 0), some (.getfield 9, 3, 64), none, none, some (.iload_n 2, 1, 0), some (.iaload, 1, 0), some (.iload_n 1, 1, 0), some (.if_icmp .ne 5, 3, 0), none, none, some (.iload_n 2, 1, 0), some (.ireturn, 1, 0), some (.iinc 2 1, 3, 0), none, none, some (.goto (-28), 3, 0), none, none, some (.iconst (-1), 1, 0), some (.ireturn, 1, 0)]
/-- FlashTree$Listing.findFile (I)I -/
def K29 : List (Option Ent) := [some (.aload_n 0, 1, 0), some (.iload_n 1, 1, 0), some (.invokevirtual 35, 3, 28), none, none, some (.istore_n 2, 1, 0), some (.aload_n 0, 1, 0), some (.iload_n 2, 1, 0), some (.invokevirtual 39, 3, 30), none, none, some (.ifCond .eq 7, 3, 0), none, none, some (.iconst (-1), 1, 0), some (.goto 4, 3, 0), none, none, some (.iload_n 2, 1, 0), some (.ireturn, 1, 0)]
/-- FlashTree$Listing.isFolder (I)Z -/
def K30 : List (Option Ent) := [some (.aload_n 0, 1, 0), some (.iload_n 1, 1, 0), some (.invokevirtual 43, 3, 32), none, none, some (.iconst (-1), 1, 0), some (.if_icmp .eq 7, 3, 0), none, none, some (.iconst 1, 1, 0), some (.goto 4, 3, 0), none, none, some (.iconst 0, 1, 0), some (.ireturn, 1, 0)]
/-- FlashTree$Listing.nameAt (I)I -/
def K31 : List (Option Ent) := [some (.aload_n 0, 1, 0), some (.iload_n 1, 1, 0), some (.invokevirtual 46, 3, 41), none, none, some (.ifCond .eq 12, 3, 0), none, none, some (.aload_n 0, 1, 0), some (.getfield 9, 3, 64), none, none, some (.iload_n 1, 1, 0), some (.iaload, 1, 0), some (.goto 4, 3, 0), none, none, some (.iconst 0, 1, 0), some (.ireturn, 1, 0)]
/-- FlashTree$Listing.pairAt (I)I -/
def K32 : List (Option Ent) := [some (.aload_n 0, 1, 0), some (.iload_n 1, 1, 0), some (.invokevirtual 46, 3, 41), none, none, some (.ifCond .eq 12, 3, 0), none, none, some (.aload_n 0, 1, 0), some (.getfield 15, 3, 65), none, none, some (.iload_n 1, 1, 0), some (.iaload, 1, 0), some (.goto 4, 3, 0), none, none, some (.iconst (-1), 1, 0), some (.ireturn, 1, 0)]
/-- FlashTree$Listing.lengthAt (I)I -/
def K33 : List (Option Ent) := [some (.aload_n 0, 1, 0), some (.iload_n 1, 1, 0), some (.invokevirtual 46, 3, 41), none, none, some (.ifCond .eq 12, 3, 0), none, none, some (.aload_n 0, 1, 0), some (.getfield 18, 3, 66), none, none, some (.iload_n 1, 1, 0), some (.iaload, 1, 0), some (.goto 4, 3, 0), none, none, some (.iconst 0, 1, 0), some (.ireturn, 1, 0)]
/-- FlashTree$Listing.contentAt (I)J -/
def K34 : List (Option Ent) := [some (.aload_n 0, 1, 0), some (.iload_n 1, 1, 0), some (.invokevirtual 46, 3, 41), none, none, some (.ifCond .eq 12, 3, 0), none, none, some (.aload_n 0, 1, 0), some (.getfield 21, 3, 67), none, none, some (.iload_n 1, 1, 0), some (.laload, 1, 0), some (.goto 4, 3, 0), none, none, some (.lconst 0, 1, 0), some (.lreturn, 1, 0)]
/-- FlashTree$Listing.addEntryTo (LFlashTree$Operations;II)V -/
def K35 : List (Option Ent) := [some (.aload_n 0, 1, 0), some (.iload_n 2, 1, 0), some (.invokevirtual 39, 3, 30), none, none, some (.ifCond .eq 16, 3, 0), none, none, some (.aload_n 1, 1, 0), some (.iload_n 3, 1, 0), some (.aload_n 0, 1, 0), some (.iload_n 2, 1, 0), some (.invokevirtual 43, 3, 32), none, none, some (.invokevirtual 49, 3, 48), none, none, some (.goto 18, 3, 0), none, none, some (.aload_n 1, 1, 0), some (.iload_n 3, 1, 0), some (.aload_n 0, 1, 0), some (.iload_n 2, 1, 0), some (.invokevirtual 55, 3, 33), none, none, some (.aload_n 0, 1, 0), some (.iload_n 2, 1, 0), some (.invokevirtual 58, 3, 34), none, none, some (.invokevirtual 62, 3, 47), none, none, some (.return_, 1, 0)]
/-- FlashTree$Listing.addAllTo (LFlashTree$Operations;)V -/
def K36 : List (Option Ent) := [some (.iconst 0, 1, 0), some (.istore_n 2, 1, 0), some (.iload_n 2, 1, 0), some (.aload_n 0, 1, 0), some (.getfield 25, 3, 68), none, none, some (.if_icmp .ge 25, 3, 0), none, none, some (.iload_n 2, 1, 0), some (.iconst 4, 1, 0), some (.if_icmp .ge 20, 3, 0), none, none, some (.aload_n 0, 1, 0), some (.aload_n 1, 1, 0), some (.iload_n 2, 1, 0), some (.aload_n 0, 1, 0), some (.iload_n 2, 1, 0), some (.invokevirtual 66, 3, 31), none, none, some (.invokevirtual 69, 3, 35), none, none, some (.iinc 2 1, 3, 0), none, none, some (.goto (-27), 3, 0), none, none, some (.aload_n 0, 1, 0), some (.invokevirtual 73, 3, 27), none, none, some (.ifCond .eq 15, 3, 0), none, none, some (.aload_n 1, 1, 0), some (.aload_n 0, 1, 0), some (.getfield 29, 3, 69), none, none, some (.aload_n 0, 1, 0), some (.getfield 32, 3, 70), none, none, some (.invokevirtual 77, 3, 50), none, none, some (.return_, 1, 0)]
/-- FlashTree$Listing.apply (LFlashTree$Operations;)V -/
def K37 : List (Option Ent) := [some (.iconst 0, 1, 0), some (.istore_n 2, 1, 0), some (.iconst 0, 1, 0), some (.istore_n 3, 1, 0), some (.iload_n 3, 1, 0), some (.bipush 64, 2, 0), none, some (.if_icmp .ge 26, 3, 0), none, none, some (.iload_n 2, 1, 0), some (.aload_n 1, 1, 0), some (.invokevirtual 80, 3, 44), none, none, some (.if_icmp .ge 18, 3, 0), none, none, some (.iload_n 2, 1, 0), some (.aload_n 0, 1, 0), some (.aload_n 1, 1, 0), some (.iload_n 2, 1, 0), some (.invokevirtual 84, 3, 38), none, none, some (.iadd, 1, 0), some (.istore_n 2, 1, 0), some (.iinc 3 1, 3, 0), none, none, some (.goto (-26), 3, 0), none, none, some (.return_, 1, 0)]
/-- FlashTree$Listing.applyOne (LFlashTree$Operations;I)I -/
def K38 : List (Option Ent) := [some (.aload_n 1, 1, 0), some (.iload_n 2, 1, 0), some (.iconst 1, 1, 0), some (.iadd, 1, 0), some (.invokevirtual 88, 3, 45), none, none, some (.istore_n 3, 1, 0), some (.aload_n 1, 1, 0), some (.iload_n 2, 1, 0), some (.iconst 2, 1, 0), some (.iadd, 1, 0), some (.invokevirtual 88, 3, 45), none, none, some (.istore 4, 2, 0), none, some (.aload_n 1, 1, 0), some (.iload_n 2, 1, 0), some (.invokevirtual 88, 3, 45), none, none, some (.tableswitch 98 1 5 #[34, 56, 67, 78, 91], 34, 0), none, none, none, none, none, none, none, none, none, none, none, none, none, none, none, none, none, none, none, none, none, none, none, none, none, none, none, none, none, none, none, none, none, some (.aload_n 0, 1, 0), some (.iload_n 3, 1, 0), some (.iconst (-1), 1, 0), some (.iload 4, 2, 0), none, some (.aload_n 1, 1, 0), some (.iload_n 2, 1, 0), some (.iconst 3, 1, 0), some (.iadd, 1, 0), some (.iload 4, 2, 0), none, some (.invokevirtual 91, 3, 52), none, none, some (.invokevirtual 94, 3, 39), none, none, some (.iconst 3, 1, 0), some (.iload 4, 2, 0), none, some (.iadd, 1, 0), some (.ireturn, 1, 0), some (.aload_n 0, 1, 0), some (.iload_n 3, 1, 0), some (.iload 4, 2, 0), none, some (.iconst 0, 1, 0), some (.lconst 0, 1, 0), some (.invokevirtual 94, 3, 39), none, none, some (.iconst 3, 1, 0), some (.ireturn, 1, 0), some (.aload_n 0, 1, 0), some (.aload_n 0, 1, 0), some (.iload_n 3, 1, 0), some (.invokevirtual 35, 3, 28), none, none, some (.invokevirtual 98, 3, 40), none, none, some (.iconst 2, 1, 0), some (.ireturn, 1, 0), some (.aload_n 0, 1, 0), some (.iload_n 3, 1, 0), some (.putfield 29, 3, 69), none, none, some (.aload_n 0, 1, 0), some (.iload 4, 2, 0), none, some (.putfield 32, 3, 70), none, none, some (.iconst 3, 1, 0), some (.ireturn, 1, 0), some (.aload_n 0, 1, 0), some (.iconst (-1), 1, 0), some (.putfield 29, 3, 69), none, none, some (.iconst 1, 1, 0), some (.ireturn, 1, 0), some (.iconst 1, 1, 0), some (.ireturn, 1, 0)]
/-- FlashTree$Listing.put (IIIJ)V -/
def K39 : List (Option Ent) := [some (.aload_n 0, 1, 0), some (.iload_n 1, 1, 0), some (.invokevirtual 35, 3, 28), none, none, some (.istore 6, 2, 0), none, some (.iload 6, 2, 0), none, some (.iconst (-1), 1, 0), some (.if_icmp .ne 27, 3, 0), none, none, some (.aload_n 0, 1, 0), some (.invokevirtual 102, 3, 26), none, none, some (.ifCond .eq 4, 3, 0), none, none, some (.return_, 1, 0), some (.aload_n 0, 1, 0), some (.getfield 25, 3, 68), none, none, some (.istore 6, 2, 0), none, some (.aload_n 0, 1, 0), some (.dup, 1, 0), some (.getfield 25, 3, 68), none, none, some (.iconst 1, 1, 0), some (.iadd, 1, 0), some (.putfield 25, 3, 68), none, none, some (.aload_n 0, 1, 0), some (.iload 6, 2, 0), none, some (.invokevirtual 46, 3, 41), none, none, some (.ifCond .eq 36, 3, 0), none, none, some (.aload_n 0, 1, 0), some (.getfield 9, 3, 64), none, none, some (.iload 6, 2, 0), none, some (.iload_n 1, 1, 0), some (.iastore, 1, 0), some (.aload_n 0, 1, 0), some (.getfield 15, 3, 65), none, none, some (.iload 6, 2, 0), none, some (.iload_n 2, 1, 0), some (.iastore, 1, 0), some (.aload_n 0, 1, 0), some (.getfield 18, 3, 66), none, none, some (.iload 6, 2, 0), none, some (.iload_n 3, 1, 0), some (.iastore, 1, 0), some (.aload_n 0, 1, 0), some (.getfield 21, 3, 67), none, none, some (.iload 6, 2, 0), none, some (.lload 4, 2, 0), none, some (.lastore, 1, 0), some (.return_, 1, 0)]
/-- FlashTree$Listing.takeOut (I)V -/
def K40 : List (Option Ent) := [some (.aload_n 0, 1, 0), some (.iload_n 1, 1, 0), some (.invokevirtual 46, 3, 41), none, none, some (.ifCond .ne 4, 3, 0), none, none, some (.return_, 1, 0), some (.iload_n 1, 1, 0), some (.istore_n 2, 1, 0), some (.iload_n 2, 1, 0), some (.iconst 1, 1, 0), some (.iadd, 1, 0), some (.aload_n 0, 1, 0), some (.getfield 25, 3, 68), none, none, some (.if_icmp .ge 72, 3, 0), none, none, some (.iload_n 2, 1, 0), some (.iconst 1, 1, 0), some (.iadd, 1, 0), some (.iconst 4, 1, 0), some (.if_icmp .ge 65, 3, 0), none, none, some (.aload_n 0, 1, 0), some (.getfield 9, 3, 64), none, none, some (.iload_n 2, 1, 0), some (.aload_n 0, 1, 0), some (.getfield 9, 3, 64), none, none, some (.iload_n 2, 1, 0), some (.iconst 1, 1, 0), some (.iadd, 1, 0), some (.iaload, 1, 0), some (.iastore, 1, 0), some (.aload_n 0, 1, 0), some (.getfield 15, 3, 65), none, none, some (.iload_n 2, 1, 0), some (.aload_n 0, 1, 0), some (.getfield 15, 3, 65), none, none, some (.iload_n 2, 1, 0), some (.iconst 1, 1, 0), some (.iadd, 1, 0), some (.iaload, 1, 0), some (.iastore, 1, 0), some (.aload_n 0, 1, 0), some (.getfield 18, 3, 66), none, none, some (.iload_n 2, 1, 0), some (.aload_n 0, 1, 0), some (.getfield 18, 3, 66), none, none, some (.iload_n 2, 1, 0), some (.iconst 1, 1, 0), some (.iadd, 1, 0), some (.iaload, 1, 0), some (.iastore, 1, 0), some (.aload_n 0, 1, 0), some (.getfield 21, 3, 67), none, none, some (.iload_n 2, 1, 0), some (.aload_n 0, 1, 0), some (.getfield 21, 3, 67), none, none, some (.iload_n 2, 1, 0), some (.iconst 1, 1, 0), some (.iadd, 1, 0), some (.laload, 1, 0), some (.lastore, 1, 0), some (.iinc 2 1, 3, 0), none, none, some (.goto (-76), 3, 0), none, none, some (.aload_n 0, 1, 0), some (.dup, 1, 0), some (.getfield 25, 3, 68), none, none, some (.iconst 1, 1, 0), some (.isub, 1, 0), some (.putfield 25, 3, 68), none, none, some (.return_, 1, 0)]
/-- FlashTree$Listing.isPlace (I)Z -/
def K41 : List (Option Ent) := [some (.iload_n 1, 1, 0), some (.ifCond .lt 20, 3, 0), none, none, some (.iload_n 1, 1, 0), some (.aload_n 0, 1, 0), some (.getfield 25, 3, 68), none, none, some (.if_icmp .ge 12, 3, 0), none, none, some (.iload_n 1, 1, 0), some (.iconst 4, 1, 0), some (.if_icmp .ge 7, 3, 0), none, none, some (.iconst 1, 1, 0), some (.goto 4, 3, 0), none, none, some (.iconst 0, 1, 0), some (.ireturn, 1, 0)]
/-- FlashTree$Operations.<init> ()V -/
def K42 : List (Option Ent) := [some (.aload_n 0, 1, 0), some (.invokespecial 3, 3, 999), none, none, some (.aload_n 0, 1, 0), some (.bipush 64, 2, 0), none, some (.newarray .int, 2, 0), none, some (.putfield 9, 3, 96), none, none, some (.aload_n 0, 1, 0), some (.iconst 0, 1, 0), some (.putfield 15, 3, 97), none, none, some (.return_, 1, 0)]
/-- FlashTree$Operations.clear ()V -/
def K43 : List (Option Ent) := [some (.aload_n 0, 1, 0), some (.iconst 0, 1, 0), some (.putfield 15, 3, 97), none, none, some (.return_, 1, 0)]
/-- FlashTree$Operations.length ()I -/
def K44 : List (Option Ent) := [some (.aload_n 0, 1, 0), some (.getfield 15, 3, 97), none, none, some (.ireturn, 1, 0)]
/-- FlashTree$Operations.at (I)I -/
def K45 : List (Option Ent) := [some (.iload_n 1, 1, 0), some (.ifCond .lt 29, 3, 0), none, none, some (.iload_n 1, 1, 0), some (.aload_n 0, 1, 0), some (.getfield 15, 3, 97), none, none, some (.if_icmp .ge 21, 3, 0), none, none, some (.iload_n 1, 1, 0), some (.aload_n 0, 1, 0), some (.getfield 9, 3, 96), none, none, some (.arraylength, 1, 0), some (.if_icmp .ge 12, 3, 0), none, none, some (.aload_n 0, 1, 0), some (.getfield 9, 3, 96), none, none, some (.iload_n 1, 1, 0), some (.iaload, 1, 0), some (.goto 4, 3, 0), none, none, some (.iconst 0, 1, 0), some (.ireturn, 1, 0)]
/-- FlashTree$Operations.add (I)V -/
def K46 : List (Option Ent) := [some (.aload_n 0, 1, 0), some (.getfield 15, 3, 97), none, none, some (.ifCond .lt 35, 3, 0), none, none, some (.aload_n 0, 1, 0), some (.getfield 15, 3, 97), none, none, some (.aload_n 0, 1, 0), some (.getfield 9, 3, 96), none, none, some (.arraylength, 1, 0), some (.if_icmp .ge 23, 3, 0), none, none, some (.aload_n 0, 1, 0), some (.getfield 9, 3, 96), none, none, some (.aload_n 0, 1, 0), some (.getfield 15, 3, 97), none, none, some (.iload_n 1, 1, 0), some (.iastore, 1, 0), some (.aload_n 0, 1, 0), some (.dup, 1, 0), some (.getfield 15, 3, 97), none, none, some (.iconst 1, 1, 0), some (.iadd, 1, 0), some (.putfield 15, 3, 97), none, none, some (.return_, 1, 0)]
/-- FlashTree$Operations.addFile (IIJ)V -/
def K47 : List (Option Ent) := [some (.aload_n 0, 1, 0), some (.iconst 1, 1, 0), some (.invokevirtual 19, 3, 46), none, none, some (.aload_n 0, 1, 0), some (.iload_n 1, 1, 0), some (.invokevirtual 19, 3, 46), none, none, some (.aload_n 0, 1, 0), some (.iload_n 2, 1, 0), some (.invokevirtual 19, 3, 46), none, none, some (.iconst 0, 1, 0), some (.istore 5, 2, 0), none, some (.iload 5, 2, 0), none, some (.iload_n 2, 1, 0), some (.if_icmp .ge 32, 3, 0), none, none, some (.iload 5, 2, 0), none, some (.bipush 6, 2, 0), none, some (.if_icmp .ge 25, 3, 0), none, none, some (.aload_n 0, 1, 0), some (.lload_n 3, 1, 0), some (.bipush 8, 2, 0), none, some (.iload 5, 2, 0), none, some (.imul, 1, 0), some (.lushr, 1, 0), some (.l2i, 1, 0), some (.sipush 255, 3, 0), none, none, some (.iand, 1, 0), some (.invokevirtual 19, 3, 46), none, none, some (.iinc 5 1, 3, 0), none, none, some (.goto (-32), 3, 0), none, none, some (.return_, 1, 0)]
/-- FlashTree$Operations.addFolder (II)V -/
def K48 : List (Option Ent) := [some (.aload_n 0, 1, 0), some (.iconst 2, 1, 0), some (.invokevirtual 19, 3, 46), none, none, some (.aload_n 0, 1, 0), some (.iload_n 1, 1, 0), some (.invokevirtual 19, 3, 46), none, none, some (.aload_n 0, 1, 0), some (.iload_n 2, 1, 0), some (.invokevirtual 19, 3, 46), none, none, some (.return_, 1, 0)]
/-- FlashTree$Operations.addGone (I)V -/
def K49 : List (Option Ent) := [some (.aload_n 0, 1, 0), some (.iconst 3, 1, 0), some (.invokevirtual 19, 3, 46), none, none, some (.aload_n 0, 1, 0), some (.iload_n 1, 1, 0), some (.invokevirtual 19, 3, 46), none, none, some (.return_, 1, 0)]
/-- FlashTree$Operations.addMark (II)V -/
def K50 : List (Option Ent) := [some (.aload_n 0, 1, 0), some (.iconst 4, 1, 0), some (.invokevirtual 19, 3, 46), none, none, some (.aload_n 0, 1, 0), some (.iload_n 1, 1, 0), some (.invokevirtual 19, 3, 46), none, none, some (.aload_n 0, 1, 0), some (.iload_n 2, 1, 0), some (.invokevirtual 19, 3, 46), none, none, some (.return_, 1, 0)]
/-- FlashTree$Operations.addNoMark ()V -/
def K51 : List (Option Ent) := [some (.aload_n 0, 1, 0), some (.iconst 5, 1, 0), some (.invokevirtual 19, 3, 46), none, none, some (.return_, 1, 0)]
/-- FlashTree$Operations.contentAt (II)J -/
def K52 : List (Option Ent) := [some (.lconst 0, 1, 0), some (.lstore_n 3, 1, 0), some (.iconst 0, 1, 0), some (.istore 5, 2, 0), none, some (.iload 5, 2, 0), none, some (.iload_n 2, 1, 0), some (.if_icmp .ge 34, 3, 0), none, none, some (.iload 5, 2, 0), none, some (.bipush 6, 2, 0), none, some (.if_icmp .ge 27, 3, 0), none, none, some (.lload_n 3, 1, 0), some (.aload_n 0, 1, 0), some (.iload_n 1, 1, 0), some (.iload 5, 2, 0), none, some (.iadd, 1, 0), some (.invokevirtual 23, 3, 45), none, none, some (.i2l, 1, 0), some (.bipush 8, 2, 0), none, some (.iload 5, 2, 0), none, some (.imul, 1, 0), some (.lshl, 1, 0), some (.lor, 1, 0), some (.lstore_n 3, 1, 0), some (.iinc 5 1, 3, 0), none, none, some (.goto (-34), 3, 0), none, none, some (.lload_n 3, 1, 0), some (.lreturn, 1, 0)]
/-- FlashTree.<init> ()V -/
def K53 : List (Option Ent) := [some (.aload_n 0, 1, 0), some (.invokespecial 1, 3, 999), none, none, some (.new 7, 3, 0), none, none, some (.dup, 1, 0), some (.invokespecial 9, 3, 0), none, none, some (.astore_n 1, 1, 0), some (.new 10, 3, 3), none, none, some (.dup, 1, 0), some (.invokespecial 12, 3, 42), none, none, some (.astore_n 2, 1, 0), some (.aload_n 0, 1, 0), some (.aload_n 1, 1, 0), some (.putfield 13, 3, 128), none, none, some (.aload_n 0, 1, 0), some (.bipush 8, 2, 0), none, some (.anewarray 19, 3, 1), none, none, some (.putfield 21, 3, 129), none, none, some (.aload_n 0, 1, 0), some (.bipush 8, 2, 0), none, some (.newarray .boolean, 2, 0), none, some (.putfield 25, 3, 130), none, none, some (.aload_n 0, 1, 0), some (.bipush 8, 2, 0), none, some (.newarray .boolean, 2, 0), none, some (.putfield 29, 3, 131), none, none, some (.aload_n 0, 1, 0), some (.bipush 8, 2, 0), none, some (.newarray .int, 2, 0), none, some (.putfield 32, 3, 132), none, none, some (.aload_n 0, 1, 0), some (.new 10, 3, 3), none, none, some (.dup, 1, 0), some (.invokespecial 12, 3, 42), none, none, some (.putfield 36, 3, 133), none, none, some (.aload_n 0, 1, 0), some (.iconst 0, 1, 0), some (.putfield 40, 3, 134), none, none, some (.iconst 0, 1, 0), some (.istore_n 3, 1, 0), some (.iload_n 3, 1, 0), some (.bipush 8, 2, 0), none, some (.if_icmp .ge 25, 3, 0), none, none, some (.aload_n 0, 1, 0), some (.getfield 21, 3, 129), none, none, some (.iload_n 3, 1, 0), some (.new 19, 3, 1), none, none, some (.dup, 1, 0), some (.iload_n 3, 1, 0), some (.aload_n 1, 1, 0), some (.aload_n 2, 1, 0), some (.invokespecial 44, 3, 13), none, none, some (.aastore, 1, 0), some (.iinc 3 1, 3, 0), none, none, some (.goto (-25), 3, 0), none, none, some (.return_, 1, 0)]
/-- FlashTree.cut (I)V -/
def K54 : List (Option Ent) := [some (.aload_n 0, 1, 0), some (.getfield 13, 3, 128), none, none, some (.iload_n 1, 1, 0), some (.invokevirtual 47, 3, 1), none, none, some (.return_, 1, 0)]
/-- FlashTree.off ()Z -/
def K55 : List (Option Ent) := [some (.aload_n 0, 1, 0), some (.getfield 13, 3, 128), none, none, some (.invokevirtual 51, 3, 3), none, none, some (.ireturn, 1, 0)]
/-- FlashTree.on ()V -/
def K56 : List (Option Ent) := [some (.aload_n 0, 1, 0), some (.getfield 13, 3, 128), none, none, some (.invokevirtual 55, 3, 2), none, none, some (.aload_n 0, 1, 0), some (.iconst 0, 1, 0), some (.putfield 40, 3, 134), none, none, some (.return_, 1, 0)]
/-- FlashTree.format ()I -/
def K57 : List (Option Ent) := [some (.aload_n 0, 1, 0), some (.iconst 0, 1, 0), some (.putfield 40, 3, 134), none, none, some (.aload_n 0, 1, 0), some (.getfield 13, 3, 128), none, none, some (.invokevirtual 51, 3, 3), none, none, some (.ifCond .eq 6, 3, 0), none, none, some (.bipush (-9), 2, 0), none, some (.ireturn, 1, 0), some (.aload_n 0, 1, 0), some (.iconst 0, 1, 0), some (.invokevirtual 58, 3, 76), none, none, some (.astore_n 1, 1, 0), some (.aload_n 1, 1, 0), some (.ifnull 14, 3, 0), none, none, some (.aload_n 1, 1, 0), some (.invokevirtual 62, 3, 16), none, none, some (.ifCond .eq 7, 3, 0), none, none, some (.iconst 0, 1, 0), some (.goto 5, 3, 0), none, none, some (.bipush (-9), 2, 0), none, some (.ireturn, 1, 0)]
/-- FlashTree.mount ()I -/
def K58 : List (Option Ent) := [some (.aload_n 0, 1, 0), some (.iconst 0, 1, 0), some (.putfield 40, 3, 134), none, none, some (.aload_n 0, 1, 0), some (.getfield 13, 3, 128), none, none, some (.invokevirtual 51, 3, 3), none, none, some (.ifCond .eq 6, 3, 0), none, none, some (.bipush (-9), 2, 0), none, some (.ireturn, 1, 0), some (.aload_n 0, 1, 0), some (.iconst 0, 1, 0), some (.invokevirtual 58, 3, 76), none, none, some (.astore_n 1, 1, 0), some (.aload_n 1, 1, 0), some (.ifnull 11, 3, 0), none, none, some (.aload_n 1, 1, 0), some (.invokevirtual 65, 3, 14), none, none, some (.iconst (-1), 1, 0), some (.if_icmp .ne 6, 3, 0), none, none, some (.bipush (-7), 2, 0), none, some (.ireturn, 1, 0), some (.aload_n 0, 1, 0), some (.invokevirtual 69, 3, 80), none, none, some (.aload_n 0, 1, 0), some (.iconst 0, 1, 0), some (.aload_n 0, 1, 0), some (.getfield 25, 3, 130), none, none, some (.invokevirtual 72, 3, 81), none, none, some (.aload_n 0, 1, 0), some (.invokevirtual 76, 3, 82), none, none, some (.ifCond .ne 6, 3, 0), none, none, some (.bipush (-9), 2, 0), none, some (.ireturn, 1, 0), some (.aload_n 0, 1, 0), some (.iconst 0, 1, 0), some (.aload_n 0, 1, 0), some (.getfield 25, 3, 130), none, none, some (.invokevirtual 72, 3, 81), none, none, some (.aload_n 0, 1, 0), some (.iconst 1, 1, 0), some (.putfield 40, 3, 134), none, none, some (.iconst 0, 1, 0), some (.ireturn, 1, 0)]
/-- FlashTree.make (II)I -/
def K59 : List (Option Ent) := [some (.aload_n 0, 1, 0), some (.iload_n 1, 1, 0), some (.invokevirtual 79, 3, 78), none, none, some (.astore_n 3, 1, 0), some (.aload_n 3, 1, 0), some (.ifnonnull 8, 3, 0), none, none, some (.aload_n 0, 1, 0), some (.invokevirtual 82, 3, 72), none, none, some (.ireturn, 1, 0), some (.iload_n 2, 1, 0), some (.invokestatic 85, 3, 74), none, none, some (.ifCond .ne 5, 3, 0), none, none, some (.iconst (-1), 1, 0), some (.ireturn, 1, 0), some (.aload_n 3, 1, 0), some (.getfield 89, 3, 35), none, none, some (.iload_n 2, 1, 0), some (.invokevirtual 93, 3, 28), none, none, some (.iconst (-1), 1, 0), some (.if_icmp .eq 6, 3, 0), none, none, some (.bipush (-2), 2, 0), none, some (.ireturn, 1, 0), some (.aload_n 3, 1, 0), some (.getfield 89, 3, 35), none, none, some (.invokevirtual 99, 3, 26), none, none, some (.ifCond .eq 6, 3, 0), none, none, some (.bipush (-3), 2, 0), none, some (.ireturn, 1, 0), some (.aload_n 0, 1, 0), some (.invokevirtual 102, 3, 79), none, none, some (.istore 4, 2, 0), none, some (.aload_n 0, 1, 0), some (.iload 4, 2, 0), none, some (.invokevirtual 58, 3, 76), none, none, some (.astore 5, 2, 0), none, some (.aload 5, 2, 0), none, some (.ifnonnull 6, 3, 0), none, none, some (.bipush (-4), 2, 0), none, some (.ireturn, 1, 0), some (.aload_n 0, 1, 0), some (.getfield 36, 3, 133), none, none, some (.invokevirtual 105, 3, 43), none, none, some (.aload_n 0, 1, 0), some (.getfield 36, 3, 133), none, none, some (.iload_n 2, 1, 0), some (.iload 4, 2, 0), none, some (.invokevirtual 108, 3, 48), none, none, some (.aload_n 0, 1, 0), some (.aload 5, 2, 0), none, some (.invokevirtual 62, 3, 16), none, none, some (.ifCond .eq 18, 3, 0), none, none, some (.aload_n 3, 1, 0), some (.aload_n 0, 1, 0), some (.getfield 36, 3, 133), none, none, some (.invokevirtual 112, 3, 17), none, none, some (.ifCond .eq 7, 3, 0), none, none, some (.iconst 1, 1, 0), some (.goto 4, 3, 0), none, none, some (.iconst 0, 1, 0), some (.iload 4, 2, 0), none, some (.invokevirtual 116, 3, 73), none, none, some (.ireturn, 1, 0)]
/-- FlashTree.write (IIIJ)I -/
def K60 : List (Option Ent) := [some (.aload_n 0, 1, 0), some (.iload_n 1, 1, 0), some (.invokevirtual 79, 3, 78), none, none, some (.astore 6, 2, 0), none, some (.aload 6, 2, 0), none, some (.ifnonnull 8, 3, 0), none, none, some (.aload_n 0, 1, 0), some (.invokevirtual 82, 3, 72), none, none, some (.ireturn, 1, 0), some (.iload_n 2, 1, 0), some (.invokestatic 85, 3, 74), none, none, some (.ifCond .eq 13, 3, 0), none, none, some (.iload_n 3, 1, 0), some (.ifCond .lt 9, 3, 0), none, none, some (.iload_n 3, 1, 0), some (.bipush 6, 2, 0), none, some (.if_icmp .le 5, 3, 0), none, none, some (.iconst (-1), 1, 0), some (.ireturn, 1, 0), some (.aload 6, 2, 0), none, some (.getfield 89, 3, 35), none, none, some (.iload_n 2, 1, 0), some (.invokevirtual 93, 3, 28), none, none, some (.istore 7, 2, 0), none, some (.aload 6, 2, 0), none, some (.getfield 89, 3, 35), none, none, some (.iload 7, 2, 0), none, some (.invokevirtual 120, 3, 30), none, none, some (.ifCond .eq 6, 3, 0), none, none, some (.bipush (-2), 2, 0), none, some (.ireturn, 1, 0), some (.iload 7, 2, 0), none, some (.iconst (-1), 1, 0), some (.if_icmp .ne 17, 3, 0), none, none, some (.aload 6, 2, 0), none, some (.getfield 89, 3, 35), none, none, some (.invokevirtual 99, 3, 26), none, none, some (.ifCond .eq 6, 3, 0), none, none, some (.bipush (-3), 2, 0), none, some (.ireturn, 1, 0), some (.aload_n 0, 1, 0), some (.getfield 36, 3, 133), none, none, some (.invokevirtual 105, 3, 43), none, none, some (.aload_n 0, 1, 0), some (.getfield 36, 3, 133), none, none, some (.iload_n 2, 1, 0), some (.iload_n 3, 1, 0), some (.lload 4, 2, 0), none, some (.invokevirtual 123, 3, 47), none, none, some (.aload_n 0, 1, 0), some (.aload 6, 2, 0), none, some (.aload_n 0, 1, 0), some (.getfield 36, 3, 133), none, none, some (.invokevirtual 112, 3, 17), none, none, some (.iconst 0, 1, 0), some (.invokevirtual 116, 3, 73), none, none, some (.ireturn, 1, 0)]
/-- FlashTree.remove (II)I -/
def K61 : List (Option Ent) := [some (.aload_n 0, 1, 0), some (.iload_n 1, 1, 0), some (.invokevirtual 79, 3, 78), none, none, some (.astore_n 3, 1, 0), some (.aload_n 3, 1, 0), some (.ifnonnull 8, 3, 0), none, none, some (.aload_n 0, 1, 0), some (.invokevirtual 82, 3, 72), none, none, some (.ireturn, 1, 0), some (.aload_n 3, 1, 0), some (.getfield 89, 3, 35), none, none, some (.iload_n 2, 1, 0), some (.invokevirtual 93, 3, 28), none, none, some (.istore 4, 2, 0), none, some (.iload 4, 2, 0), none, some (.iconst (-1), 1, 0), some (.if_icmp .ne 5, 3, 0), none, none, some (.iconst (-1), 1, 0), some (.ireturn, 1, 0), some (.aload_n 0, 1, 0), some (.aload_n 3, 1, 0), some (.getfield 89, 3, 35), none, none, some (.iload 4, 2, 0), none, some (.invokevirtual 127, 3, 32), none, none, some (.invokevirtual 58, 3, 76), none, none, some (.astore 5, 2, 0), none, some (.aload 5, 2, 0), none, some (.ifnull 17, 3, 0), none, none, some (.aload 5, 2, 0), none, some (.getfield 89, 3, 35), none, none, some (.invokevirtual 130, 3, 25), none, none, some (.ifCond .ne 6, 3, 0), none, none, some (.bipush (-5), 2, 0), none, some (.ireturn, 1, 0), some (.aload_n 0, 1, 0), some (.getfield 36, 3, 133), none, none, some (.invokevirtual 105, 3, 43), none, none, some (.aload_n 0, 1, 0), some (.getfield 36, 3, 133), none, none, some (.iload_n 2, 1, 0), some (.invokevirtual 133, 3, 49), none, none, some (.aload_n 0, 1, 0), some (.aload_n 3, 1, 0), some (.aload_n 0, 1, 0), some (.getfield 36, 3, 133), none, none, some (.invokevirtual 112, 3, 17), none, none, some (.iconst 0, 1, 0), some (.invokevirtual 116, 3, 73), none, none, some (.ireturn, 1, 0)]
/-- FlashTree.rename (IIII)I -/
def K62 : List (Option Ent) := [some (.aload_n 0, 1, 0), some (.iload_n 1, 1, 0), some (.invokevirtual 79, 3, 78), none, none, some (.astore 5, 2, 0), none, some (.aload_n 0, 1, 0), some (.iload_n 3, 1, 0), some (.invokevirtual 79, 3, 78), none, none, some (.astore 6, 2, 0), none, some (.aload 5, 2, 0), none, some (.ifnull 8, 3, 0), none, none, some (.aload 6, 2, 0), none, some (.ifnonnull 8, 3, 0), none, none, some (.aload_n 0, 1, 0), some (.invokevirtual 82, 3, 72), none, none, some (.ireturn, 1, 0), some (.aload 5, 2, 0), none, some (.getfield 89, 3, 35), none, none, some (.iload_n 2, 1, 0), some (.invokevirtual 93, 3, 28), none, none, some (.istore 7, 2, 0), none, some (.iload 7, 2, 0), none, some (.iconst (-1), 1, 0), some (.if_icmp .eq 11, 3, 0), none, none, some (.iload 4, 2, 0), none, some (.invokestatic 85, 3, 74), none, none, some (.ifCond .ne 5, 3, 0), none, none, some (.iconst (-1), 1, 0), some (.ireturn, 1, 0), some (.iload_n 1, 1, 0), some (.iload_n 3, 1, 0), some (.if_icmp .ne 11, 3, 0), none, none, some (.iload_n 2, 1, 0), some (.iload 4, 2, 0), none, some (.if_icmp .ne 5, 3, 0), none, none, some (.iconst 0, 1, 0), some (.ireturn, 1, 0), some (.aload_n 0, 1, 0), some (.aload 5, 2, 0), none, some (.iload 7, 2, 0), none, some (.aload 6, 2, 0), none, some (.iload 4, 2, 0), none, some (.invokevirtual 136, 3, 84), none, none, some (.istore 8, 2, 0), none, some (.iload 8, 2, 0), none, some (.ifCond .eq 6, 3, 0), none, none, some (.iload 8, 2, 0), none, some (.ireturn, 1, 0), some (.iload_n 1, 1, 0), some (.iload_n 3, 1, 0), some (.if_icmp .ne 16, 3, 0), none, none, some (.aload_n 0, 1, 0), some (.aload 5, 2, 0), none, some (.iload 7, 2, 0), none, some (.iload 4, 2, 0), none, some (.invokevirtual 140, 3, 86), none, none, some (.goto 15, 3, 0), none, none, some (.aload_n 0, 1, 0), some (.aload 5, 2, 0), none, some (.iload 7, 2, 0), none, some (.aload 6, 2, 0), none, some (.iload 4, 2, 0), none, some (.invokevirtual 144, 3, 87), none, none, some (.istore 9, 2, 0), none, some (.aload_n 0, 1, 0), some (.iload 9, 2, 0), none, some (.iconst 0, 1, 0), some (.invokevirtual 116, 3, 73), none, none, some (.ireturn, 1, 0)]
/-- FlashTree.entry (II)I -/
def K63 : List (Option Ent) := [some (.aload_n 0, 1, 0), some (.iload_n 1, 1, 0), some (.invokevirtual 79, 3, 78), none, none, some (.astore_n 3, 1, 0), some (.aload_n 3, 1, 0), some (.ifnonnull 10, 3, 0), none, none, some (.aload_n 0, 1, 0), some (.invokevirtual 82, 3, 72), none, none, some (.goto 11, 3, 0), none, none, some (.aload_n 3, 1, 0), some (.getfield 89, 3, 35), none, none, some (.iload_n 2, 1, 0), some (.invokevirtual 148, 3, 31), none, none, some (.ireturn, 1, 0)]
/-- FlashTree.kind (II)I -/
def K64 : List (Option Ent) := [some (.aload_n 0, 1, 0), some (.iload_n 1, 1, 0), some (.invokevirtual 79, 3, 78), none, none, some (.astore_n 3, 1, 0), some (.aload_n 3, 1, 0), some (.ifnonnull 8, 3, 0), none, none, some (.aload_n 0, 1, 0), some (.invokevirtual 82, 3, 72), none, none, some (.ireturn, 1, 0), some (.aload_n 3, 1, 0), some (.getfield 89, 3, 35), none, none, some (.iload_n 2, 1, 0), some (.invokevirtual 93, 3, 28), none, none, some (.istore 4, 2, 0), none, some (.iload 4, 2, 0), none, some (.iconst (-1), 1, 0), some (.if_icmp .ne 5, 3, 0), none, none, some (.iconst 0, 1, 0), some (.ireturn, 1, 0), some (.aload_n 3, 1, 0), some (.getfield 89, 3, 35), none, none, some (.iload 4, 2, 0), none, some (.invokevirtual 120, 3, 30), none, none, some (.ifCond .eq 7, 3, 0), none, none, some (.iconst 2, 1, 0), some (.goto 4, 3, 0), none, none, some (.iconst 1, 1, 0), some (.ireturn, 1, 0)]
/-- FlashTree.size (II)I -/
def K65 : List (Option Ent) := [some (.aload_n 0, 1, 0), some (.iload_n 1, 1, 0), some (.invokevirtual 79, 3, 78), none, none, some (.astore_n 3, 1, 0), some (.aload_n 3, 1, 0), some (.ifnonnull 8, 3, 0), none, none, some (.aload_n 0, 1, 0), some (.invokevirtual 82, 3, 72), none, none, some (.ireturn, 1, 0), some (.aload_n 3, 1, 0), some (.getfield 89, 3, 35), none, none, some (.iload_n 2, 1, 0), some (.invokevirtual 151, 3, 29), none, none, some (.istore 4, 2, 0), none, some (.iload 4, 2, 0), none, some (.iconst (-1), 1, 0), some (.if_icmp .ne 7, 3, 0), none, none, some (.iconst (-1), 1, 0), some (.goto 12, 3, 0), none, none, some (.aload_n 3, 1, 0), some (.getfield 89, 3, 35), none, none, some (.iload 4, 2, 0), none, some (.invokevirtual 154, 3, 33), none, none, some (.ireturn, 1, 0)]
/-- FlashTree.data (II)J -/
def K66 : List (Option Ent) := [some (.aload_n 0, 1, 0), some (.iload_n 1, 1, 0), some (.invokevirtual 79, 3, 78), none, none, some (.astore_n 3, 1, 0), some (.aload_n 3, 1, 0), some (.ifnonnull 9, 3, 0), none, none, some (.aload_n 0, 1, 0), some (.invokevirtual 82, 3, 72), none, none, some (.i2l, 1, 0), some (.lreturn, 1, 0), some (.aload_n 3, 1, 0), some (.getfield 89, 3, 35), none, none, some (.iload_n 2, 1, 0), some (.invokevirtual 151, 3, 29), none, none, some (.istore 4, 2, 0), none, some (.iload 4, 2, 0), none, some (.iconst (-1), 1, 0), some (.if_icmp .ne 9, 3, 0), none, none, some (.ldc2_w 157, 3, 0), none, none, some (.goto 12, 3, 0), none, none, some (.aload_n 3, 1, 0), some (.getfield 89, 3, 35), none, none, some (.iload 4, 2, 0), none, some (.invokevirtual 159, 3, 34), none, none, some (.lreturn, 1, 0)]
/-- FlashTree.child (II)I -/
def K67 : List (Option Ent) := [some (.aload_n 0, 1, 0), some (.iload_n 1, 1, 0), some (.invokevirtual 79, 3, 78), none, none, some (.astore_n 3, 1, 0), some (.aload_n 3, 1, 0), some (.ifnonnull 8, 3, 0), none, none, some (.aload_n 0, 1, 0), some (.invokevirtual 82, 3, 72), none, none, some (.ireturn, 1, 0), some (.aload_n 3, 1, 0), some (.getfield 89, 3, 35), none, none, some (.iload_n 2, 1, 0), some (.invokevirtual 93, 3, 28), none, none, some (.istore 4, 2, 0), none, some (.aload_n 3, 1, 0), some (.getfield 89, 3, 35), none, none, some (.iload 4, 2, 0), none, some (.invokevirtual 120, 3, 30), none, none, some (.ifCond .eq 15, 3, 0), none, none, some (.aload_n 3, 1, 0), some (.getfield 89, 3, 35), none, none, some (.iload 4, 2, 0), none, some (.invokevirtual 127, 3, 32), none, none, some (.goto 4, 3, 0), none, none, some (.iconst (-1), 1, 0), some (.ireturn, 1, 0)]
/-- FlashTree.free ()I -/
def K68 : List (Option Ent) := [some (.aload_n 0, 1, 0), some (.getfield 40, 3, 134), none, none, some (.ifCond .ne 8, 3, 0), none, none, some (.aload_n 0, 1, 0), some (.invokevirtual 82, 3, 72), none, none, some (.ireturn, 1, 0), some (.iconst 0, 1, 0), some (.istore_n 1, 1, 0), some (.iconst 0, 1, 0), some (.istore_n 2, 1, 0), some (.iload_n 2, 1, 0), some (.bipush 8, 2, 0), none, some (.if_icmp .ge 21, 3, 0), none, none, some (.aload_n 0, 1, 0), some (.getfield 25, 3, 130), none, none, some (.iload_n 2, 1, 0), some (.baload, 1, 0), some (.ifCond .ne 6, 3, 0), none, none, some (.iinc 1 1, 3, 0), none, none, some (.iinc 2 1, 3, 0), none, none, some (.goto (-21), 3, 0), none, none, some (.iload_n 1, 1, 0), some (.ireturn, 1, 0)]
/-- FlashTree.byteAt (II)I -/
def K69 : List (Option Ent) := [some (.aload_n 0, 1, 0), some (.getfield 13, 3, 128), none, none, some (.iload_n 1, 1, 0), some (.iload_n 2, 1, 0), some (.invokevirtual 163, 3, 6), none, none, some (.ireturn, 1, 0)]
/-- FlashTree.wear (I)I -/
def K70 : List (Option Ent) := [some (.aload_n 0, 1, 0), some (.getfield 13, 3, 128), none, none, some (.iload_n 1, 1, 0), some (.invokevirtual 167, 3, 5), none, none, some (.ireturn, 1, 0)]
/-- FlashTree.units ()I -/
def K71 : List (Option Ent) := [some (.aload_n 0, 1, 0), some (.getfield 13, 3, 128), none, none, some (.invokevirtual 170, 3, 4), none, none, some (.ireturn, 1, 0)]
/-- FlashTree.refusal ()I -/
def K72 : List (Option Ent) := [some (.aload_n 0, 1, 0), some (.getfield 13, 3, 128), none, none, some (.invokevirtual 51, 3, 3), none, none, some (.ifCond .eq 6, 3, 0), none, none, some (.bipush (-9), 2, 0), none, some (.ireturn, 1, 0), some (.aload_n 0, 1, 0), some (.getfield 40, 3, 134), none, none, some (.ifCond .eq 7, 3, 0), none, none, some (.iconst (-1), 1, 0), some (.goto 5, 3, 0), none, none, some (.bipush (-8), 2, 0), none, some (.ireturn, 1, 0)]
/-- FlashTree.ended (ZI)I -/
def K73 : List (Option Ent) := [some (.iload_n 1, 1, 0), some (.ifCond .ne 11, 3, 0), none, none, some (.aload_n 0, 1, 0), some (.iconst 0, 1, 0), some (.putfield 40, 3, 134), none, none, some (.bipush (-9), 2, 0), none, some (.ireturn, 1, 0), some (.aload_n 0, 1, 0), some (.iconst 0, 1, 0), some (.aload_n 0, 1, 0), some (.getfield 25, 3, 130), none, none, some (.invokevirtual 72, 3, 81), none, none, some (.iload_n 2, 1, 0), some (.ireturn, 1, 0)]
/-- FlashTree.isName (I)Z -/
def K74 : List (Option Ent) := [some (.iload_n 0, 1, 0), some (.iconst 1, 1, 0), some (.if_icmp .lt 13, 3, 0), none, none, some (.iload_n 0, 1, 0), some (.bipush 99, 2, 0), none, some (.if_icmp .gt 7, 3, 0), none, none, some (.iconst 1, 1, 0), some (.goto 4, 3, 0), none, none, some (.iconst 0, 1, 0), some (.ireturn, 1, 0)]
/-- FlashTree.isPair (I)Z -/
def K75 : List (Option Ent) := [some (.iload_n 0, 1, 0), some (.ifCond .lt 13, 3, 0), none, none, some (.iload_n 0, 1, 0), some (.bipush 8, 2, 0), none, some (.if_icmp .ge 7, 3, 0), none, none, some (.iconst 1, 1, 0), some (.goto 4, 3, 0), none, none, some (.iconst 0, 1, 0), some (.ireturn, 1, 0)]
/-- FlashTree.folderAt (I)LFlashTree$Folder; -/
def K76 : List (Option Ent) := [some (.iload_n 1, 1, 0), some (.invokestatic 173, 3, 75), none, none, some (.ifCond .eq 12, 3, 0), none, none, some (.aload_n 0, 1, 0), some (.getfield 21, 3, 129), none, none, some (.iload_n 1, 1, 0), some (.aaload, 1, 0), some (.goto 4, 3, 0), none, none, some (.aconst_null, 1, 0), some (.areturn, 1, 0)]
/-- FlashTree.folderReached (I)LFlashTree$Folder; -/
def K77 : List (Option Ent) := [some (.iload_n 1, 1, 0), some (.invokestatic 173, 3, 75), none, none, some (.ifCond .eq 21, 3, 0), none, none, some (.aload_n 0, 1, 0), some (.getfield 25, 3, 130), none, none, some (.iload_n 1, 1, 0), some (.baload, 1, 0), some (.ifCond .eq 12, 3, 0), none, none, some (.aload_n 0, 1, 0), some (.getfield 21, 3, 129), none, none, some (.iload_n 1, 1, 0), some (.aaload, 1, 0), some (.goto 4, 3, 0), none, none, some (.aconst_null, 1, 0), some (.areturn, 1, 0)]
/-- FlashTree.folderThere (I)LFlashTree$Folder; -/
def K78 : List (Option Ent) := [some (.aload_n 0, 1, 0), some (.getfield 40, 3, 134), none, none, some (.ifCond .eq 11, 3, 0), none, none, some (.aload_n 0, 1, 0), some (.iload_n 1, 1, 0), some (.invokevirtual 176, 3, 77), none, none, some (.goto 4, 3, 0), none, none, some (.aconst_null, 1, 0), some (.areturn, 1, 0)]
/-- FlashTree.lowestFreePair ()I -/
def K79 : List (Option Ent) := [some (.iconst 0, 1, 0), some (.istore_n 1, 1, 0), some (.iload_n 1, 1, 0), some (.bipush 8, 2, 0), none, some (.if_icmp .ge 20, 3, 0), none, none, some (.aload_n 0, 1, 0), some (.getfield 25, 3, 130), none, none, some (.iload_n 1, 1, 0), some (.baload, 1, 0), some (.ifCond .ne 5, 3, 0), none, none, some (.iload_n 1, 1, 0), some (.ireturn, 1, 0), some (.iinc 1 1, 3, 0), none, none, some (.goto (-20), 3, 0), none, none, some (.iconst (-1), 1, 0), some (.ireturn, 1, 0)]
/-- FlashTree.loadAll ()V -/
def K80 : List (Option Ent) := [some (.iconst 0, 1, 0), some (.istore_n 1, 1, 0), some (.iload_n 1, 1, 0), some (.bipush 8, 2, 0), none, some (.if_icmp .ge 23, 3, 0), none, none, some (.aload_n 0, 1, 0), some (.iload_n 1, 1, 0), some (.invokevirtual 58, 3, 76), none, none, some (.astore_n 2, 1, 0), some (.aload_n 2, 1, 0), some (.ifnull 7, 3, 0), none, none, some (.aload_n 2, 1, 0), some (.invokevirtual 179, 3, 15), none, none, some (.iinc 1 1, 3, 0), none, none, some (.goto (-23), 3, 0), none, none, some (.return_, 1, 0)]
/-- FlashTree.reach (I[Z)V -/
def K81 : List (Option Ent) := [some (.iconst 0, 1, 0), some (.istore_n 3, 1, 0), some (.iload_n 3, 1, 0), some (.bipush 8, 2, 0), none, some (.if_icmp .ge 28, 3, 0), none, none, some (.iload_n 3, 1, 0), some (.aload_n 2, 1, 0), some (.arraylength, 1, 0), some (.if_icmp .ge 22, 3, 0), none, none, some (.aload_n 2, 1, 0), some (.iload_n 3, 1, 0), some (.iload_n 3, 1, 0), some (.iload_n 1, 1, 0), some (.if_icmp .ne 7, 3, 0), none, none, some (.iconst 1, 1, 0), some (.goto 4, 3, 0), none, none, some (.iconst 0, 1, 0), some (.bastore, 1, 0), some (.iinc 3 1, 3, 0), none, none, some (.goto (-28), 3, 0), none, none, some (.aload_n 0, 1, 0), some (.getfield 32, 3, 132), none, none, some (.iconst 0, 1, 0), some (.iload_n 1, 1, 0), some (.iastore, 1, 0), some (.iconst 1, 1, 0), some (.istore_n 3, 1, 0), some (.iconst 0, 1, 0), some (.istore 4, 2, 0), none, some (.iload 4, 2, 0), none, some (.iload_n 3, 1, 0), some (.if_icmp .ge 105, 3, 0), none, none, some (.iload 4, 2, 0), none, some (.bipush 8, 2, 0), none, some (.if_icmp .ge 98, 3, 0), none, none, some (.aload_n 0, 1, 0), some (.aload_n 0, 1, 0), some (.getfield 32, 3, 132), none, none, some (.iload 4, 2, 0), none, some (.iaload, 1, 0), some (.invokevirtual 58, 3, 76), none, none, some (.astore 5, 2, 0), none, some (.iconst 0, 1, 0), some (.istore 6, 2, 0), none, some (.aload 5, 2, 0), none, some (.ifnull 71, 3, 0), none, none, some (.iload 6, 2, 0), none, some (.iconst 4, 1, 0), some (.if_icmp .ge 65, 3, 0), none, none, some (.aload 5, 2, 0), none, some (.getfield 89, 3, 35), none, none, some (.iload 6, 2, 0), none, some (.invokevirtual 127, 3, 32), none, none, some (.istore 7, 2, 0), none, some (.iload 7, 2, 0), none, some (.invokestatic 173, 3, 75), none, none, some (.ifCond .eq 39, 3, 0), none, none, some (.iload 7, 2, 0), none, some (.aload_n 2, 1, 0), some (.arraylength, 1, 0), some (.if_icmp .ge 32, 3, 0), none, none, some (.aload_n 2, 1, 0), some (.iload 7, 2, 0), none, some (.baload, 1, 0), some (.ifCond .ne 25, 3, 0), none, none, some (.iload_n 3, 1, 0), some (.bipush 8, 2, 0), none, some (.if_icmp .ge 19, 3, 0), none, none, some (.aload_n 2, 1, 0), some (.iload 7, 2, 0), none, some (.iconst 1, 1, 0), some (.bastore, 1, 0), some (.aload_n 0, 1, 0), some (.getfield 32, 3, 132), none, none, some (.iload_n 3, 1, 0), some (.iload 7, 2, 0), none, some (.iastore, 1, 0), some (.iinc 3 1, 3, 0), none, none, some (.iinc 6 1, 3, 0), none, none, some (.goto (-70), 3, 0), none, none, some (.iinc 4 1, 3, 0), none, none, some (.goto (-105), 3, 0), none, none, some (.return_, 1, 0)]
/-- FlashTree.finishMove ()Z -/
def K82 : List (Option Ent) := [some (.iconst 0, 1, 0), some (.istore_n 1, 1, 0), some (.iload_n 1, 1, 0), some (.bipush 8, 2, 0), none, some (.if_icmp .ge 35, 3, 0), none, none, some (.aload_n 0, 1, 0), some (.iload_n 1, 1, 0), some (.invokevirtual 176, 3, 77), none, none, some (.astore_n 2, 1, 0), some (.aload_n 2, 1, 0), some (.ifnull 19, 3, 0), none, none, some (.aload_n 2, 1, 0), some (.getfield 89, 3, 35), none, none, some (.invokevirtual 182, 3, 27), none, none, some (.ifCond .eq 9, 3, 0), none, none, some (.aload_n 0, 1, 0), some (.aload_n 2, 1, 0), some (.invokevirtual 185, 3, 83), none, none, some (.ireturn, 1, 0), some (.iinc 1 1, 3, 0), none, none, some (.goto (-35), 3, 0), none, none, some (.iconst 1, 1, 0), some (.ireturn, 1, 0)]
/-- FlashTree.finishMoveTo (LFlashTree$Folder;)Z -/
def K83 : List (Option Ent) := [some (.aload_n 1, 1, 0), some (.getfield 89, 3, 35), none, none, some (.getfield 189, 3, 70), none, none, some (.istore_n 2, 1, 0), some (.aload_n 0, 1, 0), some (.aload_n 1, 1, 0), some (.getfield 89, 3, 35), none, none, some (.getfield 193, 3, 69), none, none, some (.invokevirtual 176, 3, 77), none, none, some (.astore_n 3, 1, 0), some (.aload_n 3, 1, 0), some (.ifnull 43, 3, 0), none, none, some (.aload_n 3, 1, 0), some (.getfield 89, 3, 35), none, none, some (.iload_n 2, 1, 0), some (.invokevirtual 93, 3, 28), none, none, some (.iconst (-1), 1, 0), some (.if_icmp .eq 31, 3, 0), none, none, some (.aload_n 0, 1, 0), some (.getfield 36, 3, 133), none, none, some (.invokevirtual 105, 3, 43), none, none, some (.aload_n 0, 1, 0), some (.getfield 36, 3, 133), none, none, some (.iload_n 2, 1, 0), some (.invokevirtual 133, 3, 49), none, none, some (.aload_n 3, 1, 0), some (.aload_n 0, 1, 0), some (.getfield 36, 3, 133), none, none, some (.invokevirtual 112, 3, 17), none, none, some (.ifCond .ne 5, 3, 0), none, none, some (.iconst 0, 1, 0), some (.ireturn, 1, 0), some (.aload_n 0, 1, 0), some (.getfield 36, 3, 133), none, none, some (.invokevirtual 105, 3, 43), none, none, some (.aload_n 0, 1, 0), some (.getfield 36, 3, 133), none, none, some (.invokevirtual 196, 3, 51), none, none, some (.aload_n 1, 1, 0), some (.aload_n 0, 1, 0), some (.getfield 36, 3, 133), none, none, some (.invokevirtual 112, 3, 17), none, none, some (.ireturn, 1, 0)]
/-- FlashTree.moveRefusal (LFlashTree$Folder;ILFlashTree$Folder;I)I -/
def K84 : List (Option Ent) := [some (.aload_n 1, 1, 0), some (.getfield 89, 3, 35), none, none, some (.iload_n 2, 1, 0), some (.invokevirtual 120, 3, 30), none, none, some (.istore 5, 2, 0), none, some (.aload_n 3, 1, 0), some (.getfield 89, 3, 35), none, none, some (.iload 4, 2, 0), none, some (.invokevirtual 93, 3, 28), none, none, some (.istore 6, 2, 0), none, some (.iload 6, 2, 0), none, some (.iconst (-1), 1, 0), some (.if_icmp .eq 23, 3, 0), none, none, some (.iload 5, 2, 0), none, some (.ifCond .ne 15, 3, 0), none, none, some (.aload_n 3, 1, 0), some (.getfield 89, 3, 35), none, none, some (.iload 6, 2, 0), none, some (.invokevirtual 120, 3, 30), none, none, some (.ifCond .eq 6, 3, 0), none, none, some (.bipush (-2), 2, 0), none, some (.ireturn, 1, 0), some (.iload 6, 2, 0), none, some (.iconst (-1), 1, 0), some (.if_icmp .ne 27, 3, 0), none, none, some (.aload_n 1, 1, 0), some (.getfield 199, 3, 32), none, none, some (.aload_n 3, 1, 0), some (.getfield 199, 3, 32), none, none, some (.if_icmp .eq 16, 3, 0), none, none, some (.aload_n 3, 1, 0), some (.getfield 89, 3, 35), none, none, some (.invokevirtual 99, 3, 26), none, none, some (.ifCond .eq 6, 3, 0), none, none, some (.bipush (-3), 2, 0), none, some (.ireturn, 1, 0), some (.iload 5, 2, 0), none, some (.ifCond .eq 25, 3, 0), none, none, some (.aload_n 0, 1, 0), some (.aload_n 3, 1, 0), some (.getfield 199, 3, 32), none, none, some (.aload_n 1, 1, 0), some (.getfield 89, 3, 35), none, none, some (.iload_n 2, 1, 0), some (.invokevirtual 127, 3, 32), none, none, some (.invokevirtual 202, 3, 85), none, none, some (.ifCond .eq 6, 3, 0), none, none, some (.bipush (-6), 2, 0), none, some (.ireturn, 1, 0), some (.iconst 0, 1, 0), some (.ireturn, 1, 0)]
/-- FlashTree.isWithin (II)Z -/
def K85 : List (Option Ent) := [some (.aload_n 0, 1, 0), some (.iload_n 2, 1, 0), some (.aload_n 0, 1, 0), some (.getfield 29, 3, 131), none, none, some (.invokevirtual 72, 3, 81), none, none, some (.iload_n 1, 1, 0), some (.invokestatic 173, 3, 75), none, none, some (.ifCond .eq 16, 3, 0), none, none, some (.aload_n 0, 1, 0), some (.getfield 29, 3, 131), none, none, some (.iload_n 1, 1, 0), some (.baload, 1, 0), some (.ifCond .eq 7, 3, 0), none, none, some (.iconst 1, 1, 0), some (.goto 4, 3, 0), none, none, some (.iconst 0, 1, 0), some (.ireturn, 1, 0)]
/-- FlashTree.moveWithin (LFlashTree$Folder;II)Z -/
def K86 : List (Option Ent) := [some (.aload_n 0, 1, 0), some (.getfield 36, 3, 133), none, none, some (.invokevirtual 105, 3, 43), none, none, some (.aload_n 0, 1, 0), some (.getfield 36, 3, 133), none, none, some (.aload_n 1, 1, 0), some (.getfield 89, 3, 35), none, none, some (.iload_n 2, 1, 0), some (.invokevirtual 148, 3, 31), none, none, some (.invokevirtual 133, 3, 49), none, none, some (.aload_n 1, 1, 0), some (.getfield 89, 3, 35), none, none, some (.aload_n 0, 1, 0), some (.getfield 36, 3, 133), none, none, some (.iload_n 2, 1, 0), some (.iload_n 3, 1, 0), some (.invokevirtual 206, 3, 35), none, none, some (.aload_n 1, 1, 0), some (.aload_n 0, 1, 0), some (.getfield 36, 3, 133), none, none, some (.invokevirtual 112, 3, 17), none, none, some (.ireturn, 1, 0)]
/-- FlashTree.moveAcross (LFlashTree$Folder;ILFlashTree$Folder;I)Z -/
def K87 : List (Option Ent) := [some (.aload_n 1, 1, 0), some (.getfield 89, 3, 35), none, none, some (.iload_n 2, 1, 0), some (.invokevirtual 148, 3, 31), none, none, some (.istore 5, 2, 0), none, some (.aload_n 0, 1, 0), some (.getfield 36, 3, 133), none, none, some (.invokevirtual 105, 3, 43), none, none, some (.aload_n 1, 1, 0), some (.getfield 89, 3, 35), none, none, some (.aload_n 0, 1, 0), some (.getfield 36, 3, 133), none, none, some (.iload_n 2, 1, 0), some (.iload 4, 2, 0), none, some (.invokevirtual 206, 3, 35), none, none, some (.aload_n 0, 1, 0), some (.getfield 36, 3, 133), none, none, some (.aload_n 1, 1, 0), some (.getfield 199, 3, 32), none, none, some (.iload 5, 2, 0), none, some (.invokevirtual 210, 3, 50), none, none, some (.aload_n 3, 1, 0), some (.aload_n 0, 1, 0), some (.getfield 36, 3, 133), none, none, some (.invokevirtual 112, 3, 17), none, none, some (.ifCond .ne 5, 3, 0), none, none, some (.iconst 0, 1, 0), some (.ireturn, 1, 0), some (.aload_n 0, 1, 0), some (.getfield 36, 3, 133), none, none, some (.invokevirtual 105, 3, 43), none, none, some (.aload_n 0, 1, 0), some (.getfield 36, 3, 133), none, none, some (.iload 5, 2, 0), none, some (.invokevirtual 133, 3, 49), none, none, some (.aload_n 1, 1, 0), some (.aload_n 0, 1, 0), some (.getfield 36, 3, 133), none, none, some (.invokevirtual 112, 3, 17), none, none, some (.ifCond .ne 5, 3, 0), none, none, some (.iconst 0, 1, 0), some (.ireturn, 1, 0), some (.aload_n 0, 1, 0), some (.getfield 36, 3, 133), none, none, some (.invokevirtual 105, 3, 43), none, none, some (.aload_n 0, 1, 0), some (.getfield 36, 3, 133), none, none, some (.invokevirtual 196, 3, 51), none, none, some (.aload_n 3, 1, 0), some (.aload_n 0, 1, 0), some (.getfield 36, 3, 133), none, none, some (.invokevirtual 112, 3, 17), none, none, some (.ireturn, 1, 0)]
/-- FlashTreeModel.<init> ()V -/
def K88 : List (Option Ent) := [some (.aload_n 0, 1, 0), some (.invokespecial 1, 3, 999), none, none, some (.aload_n 0, 1, 0), some (.sipush 1024, 3, 0), none, none, some (.newarray .int, 2, 0), none, some (.putfield 7, 3, 160), none, none, some (.aload_n 0, 1, 0), some (.bipush 16, 2, 0), none, some (.newarray .int, 2, 0), none, some (.putfield 13, 3, 161), none, none, some (.aload_n 0, 1, 0), some (.iconst 4, 1, 0), some (.newarray .int, 2, 0), none, some (.putfield 16, 3, 167), none, none, some (.aload_n 0, 1, 0), some (.iconst 4, 1, 0), some (.newarray .int, 2, 0), none, some (.putfield 19, 3, 168), none, none, some (.aload_n 0, 1, 0), some (.iconst 4, 1, 0), some (.newarray .int, 2, 0), none, some (.putfield 22, 3, 169), none, none, some (.aload_n 0, 1, 0), some (.iconst 4, 1, 0), some (.newarray .long, 2, 0), none, some (.putfield 25, 3, 170), none, none, some (.aload_n 0, 1, 0), some (.bipush 32, 2, 0), none, some (.newarray .int, 2, 0), none, some (.putfield 29, 3, 175), none, none, some (.aload_n 0, 1, 0), some (.bipush 64, 2, 0), none, some (.newarray .int, 2, 0), none, some (.putfield 32, 3, 177), none, none, some (.iconst 0, 1, 0), some (.istore_n 1, 1, 0), some (.iload_n 1, 1, 0), some (.sipush 1024, 3, 0), none, none, some (.if_icmp .ge 18, 3, 0), none, none, some (.aload_n 0, 1, 0), some (.getfield 7, 3, 160), none, none, some (.iload_n 1, 1, 0), some (.sipush 255, 3, 0), none, none, some (.iastore, 1, 0), some (.iinc 1 1, 3, 0), none, none, some (.goto (-19), 3, 0), none, none, some (.return_, 1, 0)]
/-- FlashTreeModel.cut (I)V -/
def K89 : List (Option Ent) := [some (.aload_n 0, 1, 0), some (.iload_n 1, 1, 0), some (.ifCond .lt 7, 3, 0), none, none, some (.iconst 1, 1, 0), some (.goto 4, 3, 0), none, none, some (.iconst 0, 1, 0), some (.putfield 35, 3, 164), none, none, some (.aload_n 0, 1, 0), some (.iload_n 1, 1, 0), some (.putfield 39, 3, 165), none, none, some (.return_, 1, 0)]
/-- FlashTreeModel.off ()Z -/
def K90 : List (Option Ent) := [some (.aload_n 0, 1, 0), some (.getfield 43, 3, 162), none, none, some (.ireturn, 1, 0)]
/-- FlashTreeModel.on ()V -/
def K91 : List (Option Ent) := [some (.aload_n 0, 1, 0), some (.iconst 0, 1, 0), some (.putfield 43, 3, 162), none, none, some (.aload_n 0, 1, 0), some (.iconst 0, 1, 0), some (.putfield 46, 3, 163), none, none, some (.return_, 1, 0)]
/-- FlashTreeModel.spend ()Z -/
def K92 : List (Option Ent) := [some (.aload_n 0, 1, 0), some (.getfield 43, 3, 162), none, none, some (.ifCond .eq 5, 3, 0), none, none, some (.iconst 0, 1, 0), some (.ireturn, 1, 0), some (.aload_n 0, 1, 0), some (.getfield 35, 3, 164), none, none, some (.ifCond .eq 27, 3, 0), none, none, some (.aload_n 0, 1, 0), some (.getfield 39, 3, 165), none, none, some (.ifCond .ne 20, 3, 0), none, none, some (.aload_n 0, 1, 0), some (.iconst 1, 1, 0), some (.putfield 43, 3, 162), none, none, some (.aload_n 0, 1, 0), some (.iconst 0, 1, 0), some (.putfield 35, 3, 164), none, none, some (.aload_n 0, 1, 0), some (.iconst 0, 1, 0), some (.putfield 46, 3, 163), none, none, some (.iconst 0, 1, 0), some (.ireturn, 1, 0), some (.aload_n 0, 1, 0), some (.getfield 35, 3, 164), none, none, some (.ifCond .eq 13, 3, 0), none, none, some (.aload_n 0, 1, 0), some (.aload_n 0, 1, 0), some (.getfield 39, 3, 165), none, none, some (.iconst 1, 1, 0), some (.isub, 1, 0), some (.putfield 39, 3, 165), none, none, some (.aload_n 0, 1, 0), some (.aload_n 0, 1, 0), some (.getfield 49, 3, 166), none, none, some (.iconst 1, 1, 0), some (.iadd, 1, 0), some (.putfield 49, 3, 166), none, none, some (.iconst 1, 1, 0), some (.ireturn, 1, 0)]
/-- FlashTreeModel.program (II)Z -/
def K93 : List (Option Ent) := [some (.aload_n 0, 1, 0), some (.invokevirtual 52, 3, 92), none, none, some (.ifCond .ne 5, 3, 0), none, none, some (.iconst 0, 1, 0), some (.ireturn, 1, 0), some (.aload_n 0, 1, 0), some (.getfield 7, 3, 160), none, none, some (.iload_n 1, 1, 0), some (.iload_n 2, 1, 0), some (.sipush 255, 3, 0), none, none, some (.iand, 1, 0), some (.iastore, 1, 0), some (.iconst 1, 1, 0), some (.ireturn, 1, 0)]
/-- FlashTreeModel.erase (I)Z -/
def K94 : List (Option Ent) := [some (.aload_n 0, 1, 0), some (.invokevirtual 52, 3, 92), none, none, some (.ifCond .ne 5, 3, 0), none, none, some (.iconst 0, 1, 0), some (.ireturn, 1, 0), some (.iconst 0, 1, 0), some (.istore_n 2, 1, 0), some (.iload_n 2, 1, 0), some (.bipush 64, 2, 0), none, some (.if_icmp .ge 23, 3, 0), none, none, some (.aload_n 0, 1, 0), some (.getfield 7, 3, 160), none, none, some (.bipush 64, 2, 0), none, some (.iload_n 1, 1, 0), some (.imul, 1, 0), some (.iload_n 2, 1, 0), some (.iadd, 1, 0), some (.sipush 255, 3, 0), none, none, some (.iastore, 1, 0), some (.iinc 2 1, 3, 0), none, none, some (.goto (-23), 3, 0), none, none, some (.aload_n 0, 1, 0), some (.getfield 13, 3, 161), none, none, some (.iload_n 1, 1, 0), some (.aload_n 0, 1, 0), some (.getfield 13, 3, 161), none, none, some (.iload_n 1, 1, 0), some (.iaload, 1, 0), some (.iconst 1, 1, 0), some (.iadd, 1, 0), some (.iastore, 1, 0), some (.iconst 1, 1, 0), some (.ireturn, 1, 0)]
/-- FlashTreeModel.counts (I)Z -/
def K95 : List (Option Ent) := [some (.iconst 2, 1, 0), some (.aload_n 0, 1, 0), some (.getfield 7, 3, 160), none, none, some (.bipush 64, 2, 0), none, some (.iload_n 1, 1, 0), some (.imul, 1, 0), some (.iconst 1, 1, 0), some (.iadd, 1, 0), some (.iaload, 1, 0), some (.iadd, 1, 0), some (.istore_n 2, 1, 0), some (.iload_n 2, 1, 0), some (.bipush 64, 2, 0), none, some (.if_icmp .ge 21, 3, 0), none, none, some (.aload_n 0, 1, 0), some (.getfield 7, 3, 160), none, none, some (.bipush 64, 2, 0), none, some (.iload_n 1, 1, 0), some (.imul, 1, 0), some (.iload_n 2, 1, 0), some (.iadd, 1, 0), some (.iaload, 1, 0), some (.ifCond .ne 7, 3, 0), none, none, some (.iconst 1, 1, 0), some (.goto 4, 3, 0), none, none, some (.iconst 0, 1, 0), some (.ireturn, 1, 0)]
/-- FlashTreeModel.active (I)I -/
def K96 : List (Option Ent) := [some (.aload_n 0, 1, 0), some (.iconst 2, 1, 0), some (.iload_n 1, 1, 0), some (.imul, 1, 0), some (.invokevirtual 56, 3, 95), none, none, some (.istore_n 2, 1, 0), some (.aload_n 0, 1, 0), some (.iconst 2, 1, 0), some (.iload_n 1, 1, 0), some (.imul, 1, 0), some (.iconst 1, 1, 0), some (.iadd, 1, 0), some (.invokevirtual 56, 3, 95), none, none, some (.istore_n 3, 1, 0), some (.iload_n 2, 1, 0), some (.ifCond .eq 62, 3, 0), none, none, some (.iload_n 3, 1, 0), some (.ifCond .eq 58, 3, 0), none, none, some (.aload_n 0, 1, 0), some (.getfield 7, 3, 160), none, none, some (.sipush 128, 3, 0), none, none, some (.iload_n 1, 1, 0), some (.imul, 1, 0), some (.bipush 64, 2, 0), none, some (.iadd, 1, 0), some (.iaload, 1, 0), some (.aload_n 0, 1, 0), some (.getfield 7, 3, 160), none, none, some (.sipush 128, 3, 0), none, none, some (.iload_n 1, 1, 0), some (.imul, 1, 0), some (.iaload, 1, 0), some (.isub, 1, 0), some (.sipush 255, 3, 0), none, none, some (.iand, 1, 0), some (.istore 4, 2, 0), none, some (.iload 4, 2, 0), none, some (.iconst 1, 1, 0), some (.if_icmp .lt 18, 3, 0), none, none, some (.iload 4, 2, 0), none, some (.bipush 127, 2, 0), none, some (.if_icmp .gt 11, 3, 0), none, none, some (.iconst 2, 1, 0), some (.iload_n 1, 1, 0), some (.imul, 1, 0), some (.iconst 1, 1, 0), some (.iadd, 1, 0), some (.goto 6, 3, 0), none, none, some (.iconst 2, 1, 0), some (.iload_n 1, 1, 0), some (.imul, 1, 0), some (.ireturn, 1, 0), some (.iload_n 2, 1, 0), some (.ifCond .eq 9, 3, 0), none, none, some (.iconst 2, 1, 0), some (.iload_n 1, 1, 0), some (.imul, 1, 0), some (.goto 16, 3, 0), none, none, some (.iload_n 3, 1, 0), some (.ifCond .eq 11, 3, 0), none, none, some (.iconst 2, 1, 0), some (.iload_n 1, 1, 0), some (.imul, 1, 0), some (.iconst 1, 1, 0), some (.iadd, 1, 0), some (.goto 4, 3, 0), none, none, some (.iconst (-1), 1, 0), some (.ireturn, 1, 0)]
/-- FlashTreeModel.at (I)I -/
def K97 : List (Option Ent) := [some (.iconst 0, 1, 0), some (.istore_n 2, 1, 0), some (.iload_n 2, 1, 0), some (.aload_n 0, 1, 0), some (.getfield 60, 3, 171), none, none, some (.if_icmp .ge 21, 3, 0), none, none, some (.aload_n 0, 1, 0), some (.getfield 16, 3, 167), none, none, some (.iload_n 2, 1, 0), some (.iaload, 1, 0), some (.iload_n 1, 1, 0), some (.if_icmp .ne 5, 3, 0), none, none, some (.iload_n 2, 1, 0), some (.ireturn, 1, 0), some (.iinc 2 1, 3, 0), none, none, some (.goto (-23), 3, 0), none, none, some (.iconst (-1), 1, 0), some (.ireturn, 1, 0)]
/-- FlashTreeModel.put (IIIJ)V -/
def K98 : List (Option Ent) := [some (.aload_n 0, 1, 0), some (.iload_n 1, 1, 0), some (.invokevirtual 63, 3, 97), none, none, some (.istore 6, 2, 0), none, some (.iload 6, 2, 0), none, some (.ifCond .ge 19, 3, 0), none, none, some (.aload_n 0, 1, 0), some (.getfield 60, 3, 171), none, none, some (.istore 6, 2, 0), none, some (.aload_n 0, 1, 0), some (.aload_n 0, 1, 0), some (.getfield 60, 3, 171), none, none, some (.iconst 1, 1, 0), some (.iadd, 1, 0), some (.putfield 60, 3, 171), none, none, some (.aload_n 0, 1, 0), some (.getfield 16, 3, 167), none, none, some (.iload 6, 2, 0), none, some (.iload_n 1, 1, 0), some (.iastore, 1, 0), some (.aload_n 0, 1, 0), some (.getfield 19, 3, 168), none, none, some (.iload 6, 2, 0), none, some (.iload_n 2, 1, 0), some (.iastore, 1, 0), some (.aload_n 0, 1, 0), some (.getfield 22, 3, 169), none, none, some (.iload 6, 2, 0), none, some (.iload_n 3, 1, 0), some (.iastore, 1, 0), some (.aload_n 0, 1, 0), some (.getfield 25, 3, 170), none, none, some (.iload 6, 2, 0), none, some (.lload 4, 2, 0), none, some (.lastore, 1, 0), some (.return_, 1, 0)]
/-- FlashTreeModel.take (I)V -/
def K99 : List (Option Ent) := [some (.aload_n 0, 1, 0), some (.iload_n 1, 1, 0), some (.invokevirtual 63, 3, 97), none, none, some (.istore_n 2, 1, 0), some (.iload_n 2, 1, 0), some (.ifCond .ge 4, 3, 0), none, none, some (.return_, 1, 0), some (.aload_n 0, 1, 0), some (.aload_n 0, 1, 0), some (.getfield 60, 3, 171), none, none, some (.iconst 1, 1, 0), some (.isub, 1, 0), some (.putfield 60, 3, 171), none, none, some (.iload_n 2, 1, 0), some (.istore_n 3, 1, 0), some (.iload_n 3, 1, 0), some (.aload_n 0, 1, 0), some (.getfield 60, 3, 171), none, none, some (.if_icmp .ge 65, 3, 0), none, none, some (.aload_n 0, 1, 0), some (.getfield 16, 3, 167), none, none, some (.iload_n 3, 1, 0), some (.aload_n 0, 1, 0), some (.getfield 16, 3, 167), none, none, some (.iload_n 3, 1, 0), some (.iconst 1, 1, 0), some (.iadd, 1, 0), some (.iaload, 1, 0), some (.iastore, 1, 0), some (.aload_n 0, 1, 0), some (.getfield 19, 3, 168), none, none, some (.iload_n 3, 1, 0), some (.aload_n 0, 1, 0), some (.getfield 19, 3, 168), none, none, some (.iload_n 3, 1, 0), some (.iconst 1, 1, 0), some (.iadd, 1, 0), some (.iaload, 1, 0), some (.iastore, 1, 0), some (.aload_n 0, 1, 0), some (.getfield 22, 3, 169), none, none, some (.iload_n 3, 1, 0), some (.aload_n 0, 1, 0), some (.getfield 22, 3, 169), none, none, some (.iload_n 3, 1, 0), some (.iconst 1, 1, 0), some (.iadd, 1, 0), some (.iaload, 1, 0), some (.iastore, 1, 0), some (.aload_n 0, 1, 0), some (.getfield 25, 3, 170), none, none, some (.iload_n 3, 1, 0), some (.aload_n 0, 1, 0), some (.getfield 25, 3, 170), none, none, some (.iload_n 3, 1, 0), some (.iconst 1, 1, 0), some (.iadd, 1, 0), some (.laload, 1, 0), some (.lastore, 1, 0), some (.iinc 3 1, 3, 0), none, none, some (.goto (-67), 3, 0), none, none, some (.return_, 1, 0)]
/-- FlashTreeModel.apply ([III)V -/
def K100 : List (Option Ent) := [some (.iload_n 2, 1, 0), some (.istore 4, 2, 0), none, some (.iconst 0, 1, 0), some (.istore 5, 2, 0), none, some (.iload 5, 2, 0), none, some (.bipush 64, 2, 0), none, some (.if_icmp .ge 204, 3, 0), none, none, some (.iload 4, 2, 0), none, some (.iload_n 3, 1, 0), some (.if_icmp .ge 198, 3, 0), none, none, some (.aload_n 1, 1, 0), some (.iload 4, 2, 0), none, some (.iaload, 1, 0), some (.istore 6, 2, 0), none, some (.iload 6, 2, 0), none, some (.iconst 1, 1, 0), some (.if_icmp .ne 76, 3, 0), none, none, some (.lconst 0, 1, 0), some (.lstore 7, 2, 0), none, some (.aload_n 1, 1, 0), some (.iload 4, 2, 0), none, some (.iconst 2, 1, 0), some (.iadd, 1, 0), some (.iaload, 1, 0), some (.istore 9, 2, 0), none, some (.iload 9, 2, 0), none, some (.iconst 1, 1, 0), some (.isub, 1, 0), some (.istore 10, 2, 0), none, some (.iload 10, 2, 0), none, some (.ifCond .lt 27, 3, 0), none, none, some (.lload 7, 2, 0), none, some (.bipush 8, 2, 0), none, some (.lshl, 1, 0), some (.aload_n 1, 1, 0), some (.iload 4, 2, 0), none, some (.iconst 3, 1, 0), some (.iadd, 1, 0), some (.iload 10, 2, 0), none, some (.iadd, 1, 0), some (.iaload, 1, 0), some (.i2l, 1, 0), some (.lor, 1, 0), some (.lstore 7, 2, 0), none, some (.iinc 10 (-1), 3, 0), none, none, some (.goto (-26), 3, 0), none, none, some (.aload_n 0, 1, 0), some (.aload_n 1, 1, 0), some (.iload 4, 2, 0), none, some (.iconst 1, 1, 0), some (.iadd, 1, 0), some (.iaload, 1, 0), some (.iconst 1, 1, 0), some (.iload 9, 2, 0), none, some (.lload 7, 2, 0), none, some (.invokevirtual 67, 3, 98), none, none, some (.iload 4, 2, 0), none, some (.iconst 3, 1, 0), some (.iadd, 1, 0), some (.iload 9, 2, 0), none, some (.iadd, 1, 0), some (.istore 4, 2, 0), none, some (.goto 107, 3, 0), none, none, some (.iload 6, 2, 0), none, some (.iconst 2, 1, 0), some (.if_icmp .ne 30, 3, 0), none, none, some (.aload_n 0, 1, 0), some (.aload_n 1, 1, 0), some (.iload 4, 2, 0), none, some (.iconst 1, 1, 0), some (.iadd, 1, 0), some (.iaload, 1, 0), some (.iconst 2, 1, 0), some (.aload_n 1, 1, 0), some (.iload 4, 2, 0), none, some (.iconst 2, 1, 0), some (.iadd, 1, 0), some (.iaload, 1, 0), some (.lconst 0, 1, 0), some (.invokevirtual 67, 3, 98), none, none, some (.iload 4, 2, 0), none, some (.iconst 3, 1, 0), some (.iadd, 1, 0), some (.istore 4, 2, 0), none, some (.goto 74, 3, 0), none, none, some (.iload 6, 2, 0), none, some (.iconst 3, 1, 0), some (.if_icmp .ne 22, 3, 0), none, none, some (.aload_n 0, 1, 0), some (.aload_n 1, 1, 0), some (.iload 4, 2, 0), none, some (.iconst 1, 1, 0), some (.iadd, 1, 0), some (.iaload, 1, 0), some (.invokevirtual 71, 3, 99), none, none, some (.iload 4, 2, 0), none, some (.iconst 2, 1, 0), some (.iadd, 1, 0), some (.istore 4, 2, 0), none, some (.goto 49, 3, 0), none, none, some (.iload 6, 2, 0), none, some (.iconst 4, 1, 0), some (.if_icmp .ne 32, 3, 0), none, none, some (.aload_n 0, 1, 0), some (.aload_n 1, 1, 0), some (.iload 4, 2, 0), none, some (.iconst 1, 1, 0), some (.iadd, 1, 0), some (.iaload, 1, 0), some (.putfield 75, 3, 172), none, none, some (.aload_n 0, 1, 0), some (.aload_n 1, 1, 0), some (.iload 4, 2, 0), none, some (.iconst 2, 1, 0), some (.iadd, 1, 0), some (.iaload, 1, 0), some (.putfield 78, 3, 173), none, none, some (.iload 4, 2, 0), none, some (.iconst 3, 1, 0), some (.iadd, 1, 0), some (.istore 4, 2, 0), none, some (.goto 14, 3, 0), none, none, some (.aload_n 0, 1, 0), some (.iconst 0, 1, 0), some (.putfield 78, 3, 173), none, none, some (.iload 4, 2, 0), none, some (.iconst 1, 1, 0), some (.iadd, 1, 0), some (.istore 4, 2, 0), none, some (.iinc 5 1, 3, 0), none, none, some (.goto (-205), 3, 0), none, none, some (.return_, 1, 0)]
/-- FlashTreeModel.read (I)I -/
def K101 : List (Option Ent) := [some (.aload_n 0, 1, 0), some (.iload_n 1, 1, 0), some (.invokevirtual 81, 3, 96), none, none, some (.istore_n 2, 1, 0), some (.aload_n 0, 1, 0), some (.iconst 0, 1, 0), some (.putfield 60, 3, 171), none, none, some (.aload_n 0, 1, 0), some (.iconst 0, 1, 0), some (.putfield 78, 3, 173), none, none, some (.aload_n 0, 1, 0), some (.iconst 1, 1, 0), some (.putfield 84, 3, 174), none, none, some (.iload_n 2, 1, 0), some (.ifCond .lt 7, 3, 0), none, none, some (.iconst 1, 1, 0), some (.goto 4, 3, 0), none, none, some (.iconst 0, 1, 0), some (.istore_n 3, 1, 0), some (.iconst 0, 1, 0), some (.istore 4, 2, 0), none, some (.iload 4, 2, 0), none, some (.bipush 64, 2, 0), none, some (.if_icmp .ge 121, 3, 0), none, none, some (.iload_n 3, 1, 0), some (.ifCond .eq 117, 3, 0), none, none, some (.aload_n 0, 1, 0), some (.getfield 84, 3, 174), none, none, some (.bipush 64, 2, 0), none, some (.if_icmp .ge 20, 3, 0), none, none, some (.aload_n 0, 1, 0), some (.getfield 7, 3, 160), none, none, some (.bipush 64, 2, 0), none, some (.iload_n 2, 1, 0), some (.imul, 1, 0), some (.aload_n 0, 1, 0), some (.getfield 84, 3, 174), none, none, some (.iadd, 1, 0), some (.iaload, 1, 0), some (.goto 6, 3, 0), none, none, some (.sipush 255, 3, 0), none, none, some (.istore 5, 2, 0), none, some (.aload_n 0, 1, 0), some (.getfield 84, 3, 174), none, none, some (.iconst 1, 1, 0), some (.iadd, 1, 0), some (.iload 5, 2, 0), none, some (.iadd, 1, 0), some (.istore 6, 2, 0), none, some (.iload 6, 2, 0), none, some (.bipush 64, 2, 0), none, some (.if_icmp .ge 22, 3, 0), none, none, some (.aload_n 0, 1, 0), some (.getfield 7, 3, 160), none, none, some (.bipush 64, 2, 0), none, some (.iload_n 2, 1, 0), some (.imul, 1, 0), some (.iload 6, 2, 0), none, some (.iadd, 1, 0), some (.iaload, 1, 0), some (.ifCond .ne 7, 3, 0), none, none, some (.iconst 1, 1, 0), some (.goto 4, 3, 0), none, none, some (.iconst 0, 1, 0), some (.istore_n 3, 1, 0), some (.iload_n 3, 1, 0), some (.ifCond .eq 37, 3, 0), none, none, some (.aload_n 0, 1, 0), some (.aload_n 0, 1, 0), some (.getfield 7, 3, 160), none, none, some (.bipush 64, 2, 0), none, some (.iload_n 2, 1, 0), some (.imul, 1, 0), some (.aload_n 0, 1, 0), some (.getfield 84, 3, 174), none, none, some (.iadd, 1, 0), some (.iconst 1, 1, 0), some (.iadd, 1, 0), some (.bipush 64, 2, 0), none, some (.iload_n 2, 1, 0), some (.imul, 1, 0), some (.iload 6, 2, 0), none, some (.iadd, 1, 0), some (.invokevirtual 87, 3, 100), none, none, some (.aload_n 0, 1, 0), some (.iload 6, 2, 0), none, some (.iconst 1, 1, 0), some (.iadd, 1, 0), some (.putfield 84, 3, 174), none, none, some (.iinc 4 1, 3, 0), none, none, some (.goto (-122), 3, 0), none, none, some (.iload_n 2, 1, 0), some (.ireturn, 1, 0)]
/-- FlashTreeModel.record (II[II)Z -/
def K102 : List (Option Ent) := [some (.aload_n 0, 1, 0), some (.bipush 64, 2, 0), none, some (.iload_n 1, 1, 0), some (.imul, 1, 0), some (.iload_n 2, 1, 0), some (.iadd, 1, 0), some (.iload 4, 2, 0), none, some (.invokevirtual 91, 3, 93), none, none, some (.ifCond .ne 5, 3, 0), none, none, some (.iconst 0, 1, 0), some (.ireturn, 1, 0), some (.iconst 0, 1, 0), some (.istore 5, 2, 0), none, some (.iload 5, 2, 0), none, some (.iload 4, 2, 0), none, some (.if_icmp .ge 33, 3, 0), none, none, some (.aload_n 0, 1, 0), some (.bipush 64, 2, 0), none, some (.iload_n 1, 1, 0), some (.imul, 1, 0), some (.iload_n 2, 1, 0), some (.iadd, 1, 0), some (.iconst 1, 1, 0), some (.iadd, 1, 0), some (.iload 5, 2, 0), none, some (.iadd, 1, 0), some (.aload_n 3, 1, 0), some (.iload 5, 2, 0), none, some (.iaload, 1, 0), some (.invokevirtual 91, 3, 93), none, none, some (.ifCond .ne 5, 3, 0), none, none, some (.iconst 0, 1, 0), some (.ireturn, 1, 0), some (.iinc 5 1, 3, 0), none, none, some (.goto (-34), 3, 0), none, none, some (.aload_n 0, 1, 0), some (.bipush 64, 2, 0), none, some (.iload_n 1, 1, 0), some (.imul, 1, 0), some (.iload_n 2, 1, 0), some (.iadd, 1, 0), some (.iconst 1, 1, 0), some (.iadd, 1, 0), some (.iload 4, 2, 0), none, some (.iadd, 1, 0), some (.iconst 0, 1, 0), some (.invokevirtual 91, 3, 93), none, none, some (.ireturn, 1, 0)]
/-- FlashTreeModel.add (I)V -/
def K103 : List (Option Ent) := [some (.aload_n 0, 1, 0), some (.getfield 32, 3, 177), none, none, some (.aload_n 0, 1, 0), some (.getfield 95, 3, 178), none, none, some (.iload_n 1, 1, 0), some (.iastore, 1, 0), some (.aload_n 0, 1, 0), some (.aload_n 0, 1, 0), some (.getfield 95, 3, 178), none, none, some (.iconst 1, 1, 0), some (.iadd, 1, 0), some (.putfield 95, 3, 178), none, none, some (.return_, 1, 0)]
/-- FlashTreeModel.writeAnew (I)Z -/
def K104 : List (Option Ent) := [some (.aload_n 0, 1, 0), some (.iconst 0, 1, 0), some (.putfield 95, 3, 178), none, none, some (.iconst 0, 1, 0), some (.istore_n 2, 1, 0), some (.iload_n 2, 1, 0), some (.aload_n 0, 1, 0), some (.getfield 60, 3, 171), none, none, some (.if_icmp .ge 87, 3, 0), none, none, some (.aload_n 0, 1, 0), some (.aload_n 0, 1, 0), some (.getfield 19, 3, 168), none, none, some (.iload_n 2, 1, 0), some (.iaload, 1, 0), some (.invokevirtual 98, 3, 103), none, none, some (.aload_n 0, 1, 0), some (.aload_n 0, 1, 0), some (.getfield 16, 3, 167), none, none, some (.iload_n 2, 1, 0), some (.iaload, 1, 0), some (.invokevirtual 98, 3, 103), none, none, some (.aload_n 0, 1, 0), some (.aload_n 0, 1, 0), some (.getfield 22, 3, 169), none, none, some (.iload_n 2, 1, 0), some (.iaload, 1, 0), some (.invokevirtual 98, 3, 103), none, none, some (.iconst 0, 1, 0), some (.istore_n 3, 1, 0), some (.iload_n 3, 1, 0), some (.aload_n 0, 1, 0), some (.getfield 22, 3, 169), none, none, some (.iload_n 2, 1, 0), some (.iaload, 1, 0), some (.if_icmp .ge 39, 3, 0), none, none, some (.aload_n 0, 1, 0), some (.getfield 19, 3, 168), none, none, some (.iload_n 2, 1, 0), some (.iaload, 1, 0), some (.iconst 1, 1, 0), some (.if_icmp .ne 29, 3, 0), none, none, some (.aload_n 0, 1, 0), some (.aload_n 0, 1, 0), some (.getfield 25, 3, 170), none, none, some (.iload_n 2, 1, 0), some (.laload, 1, 0), some (.bipush 8, 2, 0), none, some (.iload_n 3, 1, 0), some (.imul, 1, 0), some (.lshr, 1, 0), some (.l2i, 1, 0), some (.sipush 255, 3, 0), none, none, some (.iand, 1, 0), some (.invokevirtual 98, 3, 103), none, none, some (.iinc 3 1, 3, 0), none, none, some (.goto (-43), 3, 0), none, none, some (.iinc 2 1, 3, 0), none, none, some (.goto (-89), 3, 0), none, none, some (.aload_n 0, 1, 0), some (.getfield 78, 3, 173), none, none, some (.ifCond .le 24, 3, 0), none, none, some (.aload_n 0, 1, 0), some (.iconst 4, 1, 0), some (.invokevirtual 98, 3, 103), none, none, some (.aload_n 0, 1, 0), some (.aload_n 0, 1, 0), some (.getfield 75, 3, 172), none, none, some (.invokevirtual 98, 3, 103), none, none, some (.aload_n 0, 1, 0), some (.aload_n 0, 1, 0), some (.getfield 78, 3, 173), none, none, some (.invokevirtual 98, 3, 103), none, none, some (.iload_n 1, 1, 0), some (.iconst 1, 1, 0), some (.ixor, 1, 0), some (.istore_n 2, 1, 0), some (.aload_n 0, 1, 0), some (.getfield 7, 3, 160), none, none, some (.bipush 64, 2, 0), none, some (.iload_n 1, 1, 0), some (.imul, 1, 0), some (.iaload, 1, 0), some (.iconst 1, 1, 0), some (.iadd, 1, 0), some (.istore_n 3, 1, 0), some (.aload_n 0, 1, 0), some (.iload_n 2, 1, 0), some (.invokevirtual 101, 3, 94), none, none, some (.ifCond .eq 36, 3, 0), none, none, some (.aload_n 0, 1, 0), some (.bipush 64, 2, 0), none, some (.iload_n 2, 1, 0), some (.imul, 1, 0), some (.iload_n 3, 1, 0), some (.invokevirtual 91, 3, 93), none, none, some (.ifCond .eq 24, 3, 0), none, none, some (.aload_n 0, 1, 0), some (.iload_n 2, 1, 0), some (.iconst 1, 1, 0), some (.aload_n 0, 1, 0), some (.getfield 32, 3, 177), none, none, some (.aload_n 0, 1, 0), some (.getfield 95, 3, 178), none, none, some (.invokevirtual 104, 3, 102), none, none, some (.ifCond .eq 7, 3, 0), none, none, some (.iconst 1, 1, 0), some (.goto 4, 3, 0), none, none, some (.iconst 0, 1, 0), some (.ireturn, 1, 0)]
/-- FlashTreeModel.commit (I)Z -/
def K105 : List (Option Ent) := [some (.aload_n 0, 1, 0), some (.iload_n 1, 1, 0), some (.invokevirtual 108, 3, 101), none, none, some (.istore_n 2, 1, 0), some (.iload_n 2, 1, 0), some (.ifCond .ge 5, 3, 0), none, none, some (.iconst 0, 1, 0), some (.ireturn, 1, 0), some (.aload_n 0, 1, 0), some (.getfield 84, 3, 174), none, none, some (.aload_n 0, 1, 0), some (.getfield 111, 3, 176), none, none, some (.iadd, 1, 0), some (.iconst 2, 1, 0), some (.iadd, 1, 0), some (.bipush 64, 2, 0), none, some (.if_icmp .gt 41, 3, 0), none, none, some (.aload_n 0, 1, 0), some (.getfield 7, 3, 160), none, none, some (.bipush 64, 2, 0), none, some (.iload_n 2, 1, 0), some (.imul, 1, 0), some (.aload_n 0, 1, 0), some (.getfield 84, 3, 174), none, none, some (.iadd, 1, 0), some (.iaload, 1, 0), some (.sipush 255, 3, 0), none, none, some (.if_icmp .ne 21, 3, 0), none, none, some (.aload_n 0, 1, 0), some (.iload_n 2, 1, 0), some (.aload_n 0, 1, 0), some (.getfield 84, 3, 174), none, none, some (.aload_n 0, 1, 0), some (.getfield 29, 3, 175), none, none, some (.aload_n 0, 1, 0), some (.getfield 111, 3, 176), none, none, some (.invokevirtual 104, 3, 102), none, none, some (.ireturn, 1, 0), some (.aload_n 0, 1, 0), some (.aload_n 0, 1, 0), some (.getfield 29, 3, 175), none, none, some (.iconst 0, 1, 0), some (.aload_n 0, 1, 0), some (.getfield 111, 3, 176), none, none, some (.invokevirtual 87, 3, 100), none, none, some (.aload_n 0, 1, 0), some (.iload_n 2, 1, 0), some (.invokevirtual 114, 3, 104), none, none, some (.ireturn, 1, 0)]
/-- FlashTreeModel.beginPair (I)Z -/
def K106 : List (Option Ent) := [some (.aload_n 0, 1, 0), some (.iload_n 1, 1, 0), some (.invokevirtual 108, 3, 101), none, none, some (.istore_n 2, 1, 0), some (.iload_n 2, 1, 0), some (.ifCond .ge 48, 3, 0), none, none, some (.aload_n 0, 1, 0), some (.iconst 2, 1, 0), some (.iload_n 1, 1, 0), some (.imul, 1, 0), some (.invokevirtual 101, 3, 94), none, none, some (.ifCond .eq 36, 3, 0), none, none, some (.aload_n 0, 1, 0), some (.sipush 128, 3, 0), none, none, some (.iload_n 1, 1, 0), some (.imul, 1, 0), some (.iconst 0, 1, 0), some (.invokevirtual 91, 3, 93), none, none, some (.ifCond .eq 23, 3, 0), none, none, some (.aload_n 0, 1, 0), some (.iconst 2, 1, 0), some (.iload_n 1, 1, 0), some (.imul, 1, 0), some (.iconst 1, 1, 0), some (.aload_n 0, 1, 0), some (.getfield 29, 3, 175), none, none, some (.iconst 0, 1, 0), some (.invokevirtual 104, 3, 102), none, none, some (.ifCond .eq 7, 3, 0), none, none, some (.iconst 1, 1, 0), some (.goto 4, 3, 0), none, none, some (.iconst 0, 1, 0), some (.ireturn, 1, 0), some (.aload_n 0, 1, 0), some (.iconst 0, 1, 0), some (.putfield 60, 3, 171), none, none, some (.aload_n 0, 1, 0), some (.iconst 0, 1, 0), some (.putfield 78, 3, 173), none, none, some (.aload_n 0, 1, 0), some (.iload_n 2, 1, 0), some (.invokevirtual 114, 3, 104), none, none, some (.ireturn, 1, 0)]
/-- FlashTreeModel.say (I)V -/
def K107 : List (Option Ent) := [some (.aload_n 0, 1, 0), some (.getfield 29, 3, 175), none, none, some (.aload_n 0, 1, 0), some (.getfield 111, 3, 176), none, none, some (.iload_n 1, 1, 0), some (.iastore, 1, 0), some (.aload_n 0, 1, 0), some (.aload_n 0, 1, 0), some (.getfield 111, 3, 176), none, none, some (.iconst 1, 1, 0), some (.iadd, 1, 0), some (.putfield 111, 3, 176), none, none, some (.return_, 1, 0)]
/-- FlashTreeModel.from (I)I -/
def K108 : List (Option Ent) := [some (.iconst 1, 1, 0), some (.iload_n 1, 1, 0), some (.ishl, 1, 0), some (.istore_n 2, 1, 0), some (.iconst 0, 1, 0), some (.istore_n 3, 1, 0), some (.iload_n 3, 1, 0), some (.bipush 8, 2, 0), none, some (.if_icmp .ge 89, 3, 0), none, none, some (.iconst 0, 1, 0), some (.istore 4, 2, 0), none, some (.iload 4, 2, 0), none, some (.bipush 8, 2, 0), none, some (.if_icmp .ge 73, 3, 0), none, none, some (.iload_n 2, 1, 0), some (.iload 4, 2, 0), none, some (.ishr, 1, 0), some (.iconst 1, 1, 0), some (.iand, 1, 0), some (.iconst 1, 1, 0), some (.if_icmp .ne 57, 3, 0), none, none, some (.aload_n 0, 1, 0), some (.iload 4, 2, 0), none, some (.invokevirtual 108, 3, 101), none, none, some (.istore 5, 2, 0), none, some (.iconst 0, 1, 0), some (.istore 6, 2, 0), none, some (.iload 6, 2, 0), none, some (.aload_n 0, 1, 0), some (.getfield 60, 3, 171), none, none, some (.if_icmp .ge 37, 3, 0), none, none, some (.iload 5, 2, 0), none, some (.ifCond .lt 32, 3, 0), none, none, some (.aload_n 0, 1, 0), some (.getfield 19, 3, 168), none, none, some (.iload 6, 2, 0), none, some (.iaload, 1, 0), some (.iconst 2, 1, 0), some (.if_icmp .ne 15, 3, 0), none, none, some (.iload_n 2, 1, 0), some (.iconst 1, 1, 0), some (.aload_n 0, 1, 0), some (.getfield 22, 3, 169), none, none, some (.iload 6, 2, 0), none, some (.iaload, 1, 0), some (.ishl, 1, 0), some (.ior, 1, 0), some (.istore_n 2, 1, 0), some (.iinc 6 1, 3, 0), none, none, some (.goto (-40), 3, 0), none, none, some (.iinc 4 1, 3, 0), none, none, some (.goto (-74), 3, 0), none, none, some (.iinc 3 1, 3, 0), none, none, some (.goto (-89), 3, 0), none, none, some (.iload_n 2, 1, 0), some (.ireturn, 1, 0)]
/-- FlashTreeModel.there (I)Z -/
def K109 : List (Option Ent) := [some (.iload_n 1, 1, 0), some (.ifCond .lt 26, 3, 0), none, none, some (.iload_n 1, 1, 0), some (.bipush 8, 2, 0), none, some (.if_icmp .ge 20, 3, 0), none, none, some (.aload_n 0, 1, 0), some (.iconst 0, 1, 0), some (.invokevirtual 117, 3, 108), none, none, some (.iload_n 1, 1, 0), some (.ishr, 1, 0), some (.iconst 1, 1, 0), some (.iand, 1, 0), some (.iconst 1, 1, 0), some (.if_icmp .ne 7, 3, 0), none, none, some (.iconst 1, 1, 0), some (.goto 4, 3, 0), none, none, some (.iconst 0, 1, 0), some (.ireturn, 1, 0)]
/-- FlashTreeModel.ready ()I -/
def K110 : List (Option Ent) := [some (.aload_n 0, 1, 0), some (.getfield 43, 3, 162), none, none, some (.ifCond .eq 8, 3, 0), none, none, some (.bipush (-9), 2, 0), none, some (.goto 16, 3, 0), none, none, some (.aload_n 0, 1, 0), some (.getfield 46, 3, 163), none, none, some (.ifCond .eq 7, 3, 0), none, none, some (.iconst 0, 1, 0), some (.goto 5, 3, 0), none, none, some (.bipush (-8), 2, 0), none, some (.ireturn, 1, 0)]
/-- FlashTreeModel.done (ZI)I -/
def K111 : List (Option Ent) := [some (.iload_n 1, 1, 0), some (.ifCond .eq 7, 3, 0), none, none, some (.iload_n 2, 1, 0), some (.goto 5, 3, 0), none, none, some (.bipush (-9), 2, 0), none, some (.ireturn, 1, 0)]
/-- FlashTreeModel.format ()I -/
def K112 : List (Option Ent) := [some (.aload_n 0, 1, 0), some (.getfield 43, 3, 162), none, none, some (.ifCond .eq 6, 3, 0), none, none, some (.bipush (-9), 2, 0), none, some (.ireturn, 1, 0), some (.aload_n 0, 1, 0), some (.iconst 0, 1, 0), some (.putfield 46, 3, 163), none, none, some (.aload_n 0, 1, 0), some (.aload_n 0, 1, 0), some (.iconst 0, 1, 0), some (.invokevirtual 120, 3, 106), none, none, some (.iconst 0, 1, 0), some (.invokevirtual 123, 3, 111), none, none, some (.ireturn, 1, 0)]
/-- FlashTreeModel.mount ()I -/
def K113 : List (Option Ent) := [some (.aload_n 0, 1, 0), some (.getfield 43, 3, 162), none, none, some (.ifCond .eq 6, 3, 0), none, none, some (.bipush (-9), 2, 0), none, some (.ireturn, 1, 0), some (.aload_n 0, 1, 0), some (.iconst 0, 1, 0), some (.putfield 46, 3, 163), none, none, some (.aload_n 0, 1, 0), some (.iconst 0, 1, 0), some (.invokevirtual 81, 3, 96), none, none, some (.ifCond .ge 6, 3, 0), none, none, some (.bipush (-7), 2, 0), none, some (.ireturn, 1, 0), some (.aload_n 0, 1, 0), some (.iconst 0, 1, 0), some (.invokevirtual 117, 3, 108), none, none, some (.istore_n 1, 1, 0), some (.iconst 0, 1, 0), some (.istore_n 2, 1, 0), some (.iload_n 2, 1, 0), some (.bipush 8, 2, 0), none, some (.if_icmp .ge 146, 3, 0), none, none, some (.iload_n 1, 1, 0), some (.iload_n 2, 1, 0), some (.ishr, 1, 0), some (.iconst 1, 1, 0), some (.iand, 1, 0), some (.iconst 1, 1, 0), some (.if_icmp .ne 131, 3, 0), none, none, some (.aload_n 0, 1, 0), some (.iload_n 2, 1, 0), some (.invokevirtual 108, 3, 101), none, none, some (.istore_n 3, 1, 0), some (.aload_n 0, 1, 0), some (.getfield 75, 3, 172), none, none, some (.istore 4, 2, 0), none, some (.aload_n 0, 1, 0), some (.getfield 78, 3, 173), none, none, some (.istore 5, 2, 0), none, some (.iload 5, 2, 0), none, some (.ifCond .le 108, 3, 0), none, none, some (.iload_n 3, 1, 0), some (.ifCond .lt 104, 3, 0), none, none, some (.iload 4, 2, 0), none, some (.ifCond .lt 42, 3, 0), none, none, some (.iload 4, 2, 0), none, some (.bipush 8, 2, 0), none, some (.if_icmp .ge 35, 3, 0), none, none, some (.iload_n 1, 1, 0), some (.iload 4, 2, 0), none, some (.ishr, 1, 0), some (.iconst 1, 1, 0), some (.iand, 1, 0), some (.iconst 1, 1, 0), some (.if_icmp .ne 25, 3, 0), none, none, some (.aload_n 0, 1, 0), some (.iload 4, 2, 0), none, some (.invokevirtual 108, 3, 101), none, none, some (.ifCond .lt 16, 3, 0), none, none, some (.aload_n 0, 1, 0), some (.iload 5, 2, 0), none, some (.invokevirtual 63, 3, 97), none, none, some (.ifCond .lt 7, 3, 0), none, none, some (.iconst 1, 1, 0), some (.goto 4, 3, 0), none, none, some (.iconst 0, 1, 0), some (.istore 6, 2, 0), none, some (.iload 6, 2, 0), none, some (.ifCond .eq 31, 3, 0), none, none, some (.aload_n 0, 1, 0), some (.iconst 0, 1, 0), some (.putfield 111, 3, 176), none, none, some (.aload_n 0, 1, 0), some (.iconst 3, 1, 0), some (.invokevirtual 127, 3, 107), none, none, some (.aload_n 0, 1, 0), some (.iload 5, 2, 0), none, some (.invokevirtual 127, 3, 107), none, none, some (.aload_n 0, 1, 0), some (.iload 4, 2, 0), none, some (.invokevirtual 130, 3, 105), none, none, some (.ifCond .ne 6, 3, 0), none, none, some (.bipush (-9), 2, 0), none, some (.ireturn, 1, 0), some (.aload_n 0, 1, 0), some (.iconst 0, 1, 0), some (.putfield 111, 3, 176), none, none, some (.aload_n 0, 1, 0), some (.iconst 5, 1, 0), some (.invokevirtual 127, 3, 107), none, none, some (.aload_n 0, 1, 0), some (.iload_n 2, 1, 0), some (.invokevirtual 130, 3, 105), none, none, some (.ifCond .ne 6, 3, 0), none, none, some (.bipush (-9), 2, 0), none, some (.ireturn, 1, 0), some (.iinc 2 1, 3, 0), none, none, some (.goto (-146), 3, 0), none, none, some (.aload_n 0, 1, 0), some (.iconst 1, 1, 0), some (.putfield 46, 3, 163), none, none, some (.iconst 0, 1, 0), some (.ireturn, 1, 0)]
/-- FlashTreeModel.named (I)Z -/
def K114 : List (Option Ent) := [some (.iload_n 0, 1, 0), some (.iconst 1, 1, 0), some (.if_icmp .lt 13, 3, 0), none, none, some (.iload_n 0, 1, 0), some (.bipush 99, 2, 0), none, some (.if_icmp .gt 7, 3, 0), none, none, some (.iconst 1, 1, 0), some (.goto 4, 3, 0), none, none, some (.iconst 0, 1, 0), some (.ireturn, 1, 0)]
/-- FlashTreeModel.make (II)I -/
def K115 : List (Option Ent) := [some (.aload_n 0, 1, 0), some (.invokevirtual 133, 3, 110), none, none, some (.ifCond .ge 8, 3, 0), none, none, some (.aload_n 0, 1, 0), some (.invokevirtual 133, 3, 110), none, none, some (.ireturn, 1, 0), some (.aload_n 0, 1, 0), some (.iload_n 1, 1, 0), some (.invokevirtual 137, 3, 109), none, none, some (.ifCond .eq 10, 3, 0), none, none, some (.iload_n 2, 1, 0), some (.invokestatic 140, 3, 114), none, none, some (.ifCond .ne 5, 3, 0), none, none, some (.iconst (-1), 1, 0), some (.ireturn, 1, 0), some (.aload_n 0, 1, 0), some (.iload_n 1, 1, 0), some (.invokevirtual 108, 3, 101), none, none, some (.istore_n 3, 1, 0), some (.aload_n 0, 1, 0), some (.iload_n 2, 1, 0), some (.invokevirtual 63, 3, 97), none, none, some (.ifCond .lt 6, 3, 0), none, none, some (.bipush (-2), 2, 0), none, some (.ireturn, 1, 0), some (.aload_n 0, 1, 0), some (.getfield 60, 3, 171), none, none, some (.iconst 4, 1, 0), some (.if_icmp .ne 6, 3, 0), none, none, some (.bipush (-3), 2, 0), none, some (.ireturn, 1, 0), some (.aload_n 0, 1, 0), some (.iconst 0, 1, 0), some (.invokevirtual 117, 3, 108), none, none, some (.istore 4, 2, 0), none, some (.iconst 0, 1, 0), some (.istore 5, 2, 0), none, some (.bipush 7, 2, 0), none, some (.istore 6, 2, 0), none, some (.iload 6, 2, 0), none, some (.ifCond .le 23, 3, 0), none, none, some (.iload 4, 2, 0), none, some (.iload 6, 2, 0), none, some (.ishr, 1, 0), some (.iconst 1, 1, 0), some (.iand, 1, 0), some (.ifCond .ne 7, 3, 0), none, none, some (.iload 6, 2, 0), none, some (.istore 5, 2, 0), none, some (.iinc 6 (-1), 3, 0), none, none, some (.goto (-22), 3, 0), none, none, some (.iload 5, 2, 0), none, some (.ifCond .ne 6, 3, 0), none, none, some (.bipush (-4), 2, 0), none, some (.ireturn, 1, 0), some (.aload_n 0, 1, 0), some (.iload 5, 2, 0), none, some (.invokevirtual 120, 3, 106), none, none, some (.ifCond .ne 6, 3, 0), none, none, some (.bipush (-9), 2, 0), none, some (.ireturn, 1, 0), some (.aload_n 0, 1, 0), some (.iconst 0, 1, 0), some (.putfield 111, 3, 176), none, none, some (.aload_n 0, 1, 0), some (.iconst 2, 1, 0), some (.invokevirtual 127, 3, 107), none, none, some (.aload_n 0, 1, 0), some (.iload_n 2, 1, 0), some (.invokevirtual 127, 3, 107), none, none, some (.aload_n 0, 1, 0), some (.iload 5, 2, 0), none, some (.invokevirtual 127, 3, 107), none, none, some (.aload_n 0, 1, 0), some (.aload_n 0, 1, 0), some (.iload_n 1, 1, 0), some (.invokevirtual 130, 3, 105), none, none, some (.iload 5, 2, 0), none, some (.invokevirtual 123, 3, 111), none, none, some (.ireturn, 1, 0)]
/-- FlashTreeModel.write (IIIJ)I -/
def K116 : List (Option Ent) := [some (.aload_n 0, 1, 0), some (.invokevirtual 133, 3, 110), none, none, some (.ifCond .ge 8, 3, 0), none, none, some (.aload_n 0, 1, 0), some (.invokevirtual 133, 3, 110), none, none, some (.ireturn, 1, 0), some (.aload_n 0, 1, 0), some (.iload_n 1, 1, 0), some (.invokevirtual 137, 3, 109), none, none, some (.ifCond .eq 20, 3, 0), none, none, some (.iload_n 2, 1, 0), some (.invokestatic 140, 3, 114), none, none, some (.ifCond .eq 13, 3, 0), none, none, some (.iload_n 3, 1, 0), some (.ifCond .lt 9, 3, 0), none, none, some (.iload_n 3, 1, 0), some (.bipush 6, 2, 0), none, some (.if_icmp .le 5, 3, 0), none, none, some (.iconst (-1), 1, 0), some (.ireturn, 1, 0), some (.aload_n 0, 1, 0), some (.iload_n 1, 1, 0), some (.invokevirtual 108, 3, 101), none, none, some (.istore 6, 2, 0), none, some (.aload_n 0, 1, 0), some (.iload_n 2, 1, 0), some (.invokevirtual 63, 3, 97), none, none, some (.istore 7, 2, 0), none, some (.iload 7, 2, 0), none, some (.ifCond .lt 17, 3, 0), none, none, some (.aload_n 0, 1, 0), some (.getfield 19, 3, 168), none, none, some (.iload 7, 2, 0), none, some (.iaload, 1, 0), some (.iconst 2, 1, 0), some (.if_icmp .ne 6, 3, 0), none, none, some (.bipush (-2), 2, 0), none, some (.ireturn, 1, 0), some (.iload 7, 2, 0), none, some (.ifCond .ge 14, 3, 0), none, none, some (.aload_n 0, 1, 0), some (.getfield 60, 3, 171), none, none, some (.iconst 4, 1, 0), some (.if_icmp .ne 6, 3, 0), none, none, some (.bipush (-3), 2, 0), none, some (.ireturn, 1, 0), some (.aload_n 0, 1, 0), some (.iconst 0, 1, 0), some (.putfield 111, 3, 176), none, none, some (.aload_n 0, 1, 0), some (.iconst 1, 1, 0), some (.invokevirtual 127, 3, 107), none, none, some (.aload_n 0, 1, 0), some (.iload_n 2, 1, 0), some (.invokevirtual 127, 3, 107), none, none, some (.aload_n 0, 1, 0), some (.iload_n 3, 1, 0), some (.invokevirtual 127, 3, 107), none, none, some (.iconst 0, 1, 0), some (.istore 8, 2, 0), none, some (.iload 8, 2, 0), none, some (.iload_n 3, 1, 0), some (.if_icmp .ge 26, 3, 0), none, none, some (.aload_n 0, 1, 0), some (.lload 4, 2, 0), none, some (.bipush 8, 2, 0), none, some (.iload 8, 2, 0), none, some (.imul, 1, 0), some (.lshr, 1, 0), some (.l2i, 1, 0), some (.sipush 255, 3, 0), none, none, some (.iand, 1, 0), some (.invokevirtual 127, 3, 107), none, none, some (.iinc 8 1, 3, 0), none, none, some (.goto (-26), 3, 0), none, none, some (.aload_n 0, 1, 0), some (.aload_n 0, 1, 0), some (.iload_n 1, 1, 0), some (.invokevirtual 130, 3, 105), none, none, some (.iconst 0, 1, 0), some (.invokevirtual 123, 3, 111), none, none, some (.ireturn, 1, 0)]
/-- FlashTreeModel.remove (II)I -/
def K117 : List (Option Ent) := [some (.aload_n 0, 1, 0), some (.invokevirtual 133, 3, 110), none, none, some (.ifCond .ge 8, 3, 0), none, none, some (.aload_n 0, 1, 0), some (.invokevirtual 133, 3, 110), none, none, some (.ireturn, 1, 0), some (.aload_n 0, 1, 0), some (.iload_n 1, 1, 0), some (.invokevirtual 137, 3, 109), none, none, some (.ifCond .ne 5, 3, 0), none, none, some (.iconst (-1), 1, 0), some (.ireturn, 1, 0), some (.aload_n 0, 1, 0), some (.iload_n 1, 1, 0), some (.invokevirtual 108, 3, 101), none, none, some (.istore_n 3, 1, 0), some (.aload_n 0, 1, 0), some (.iload_n 2, 1, 0), some (.invokevirtual 63, 3, 97), none, none, some (.istore 4, 2, 0), none, some (.iload 4, 2, 0), none, some (.ifCond .ge 5, 3, 0), none, none, some (.iconst (-1), 1, 0), some (.ireturn, 1, 0), some (.aload_n 0, 1, 0), some (.getfield 19, 3, 168), none, none, some (.iload 4, 2, 0), none, some (.iaload, 1, 0), some (.iconst 2, 1, 0), some (.if_icmp .ne 25, 3, 0), none, none, some (.aload_n 0, 1, 0), some (.aload_n 0, 1, 0), some (.getfield 22, 3, 169), none, none, some (.iload 4, 2, 0), none, some (.iaload, 1, 0), some (.invokevirtual 108, 3, 101), none, none, some (.istore_n 3, 1, 0), some (.aload_n 0, 1, 0), some (.getfield 60, 3, 171), none, none, some (.ifCond .le 6, 3, 0), none, none, some (.bipush (-5), 2, 0), none, some (.ireturn, 1, 0), some (.aload_n 0, 1, 0), some (.iconst 0, 1, 0), some (.putfield 111, 3, 176), none, none, some (.aload_n 0, 1, 0), some (.iconst 3, 1, 0), some (.invokevirtual 127, 3, 107), none, none, some (.aload_n 0, 1, 0), some (.iload_n 2, 1, 0), some (.invokevirtual 127, 3, 107), none, none, some (.aload_n 0, 1, 0), some (.aload_n 0, 1, 0), some (.iload_n 1, 1, 0), some (.invokevirtual 130, 3, 105), none, none, some (.iconst 0, 1, 0), some (.invokevirtual 123, 3, 111), none, none, some (.ireturn, 1, 0)]
/-- FlashTreeModel.sayEntry (IIIJ)V -/
def K118 : List (Option Ent) := [some (.aload_n 0, 1, 0), some (.iload_n 1, 1, 0), some (.invokevirtual 127, 3, 107), none, none, some (.aload_n 0, 1, 0), some (.iload_n 2, 1, 0), some (.invokevirtual 127, 3, 107), none, none, some (.aload_n 0, 1, 0), some (.iload_n 3, 1, 0), some (.invokevirtual 127, 3, 107), none, none, some (.iconst 0, 1, 0), some (.istore 6, 2, 0), none, some (.iload 6, 2, 0), none, some (.iload_n 3, 1, 0), some (.if_icmp .ge 31, 3, 0), none, none, some (.iload_n 1, 1, 0), some (.iconst 1, 1, 0), some (.if_icmp .ne 26, 3, 0), none, none, some (.aload_n 0, 1, 0), some (.lload 4, 2, 0), none, some (.bipush 8, 2, 0), none, some (.iload 6, 2, 0), none, some (.imul, 1, 0), some (.lshr, 1, 0), some (.l2i, 1, 0), some (.sipush 255, 3, 0), none, none, some (.iand, 1, 0), some (.invokevirtual 127, 3, 107), none, none, some (.iinc 6 1, 3, 0), none, none, some (.goto (-31), 3, 0), none, none, some (.return_, 1, 0)]
/-- FlashTreeModel.rename (IIII)I -/
def K119 : List (Option Ent) := [some (.aload_n 0, 1, 0), some (.invokevirtual 133, 3, 110), none, none, some (.ifCond .ge 8, 3, 0), none, none, some (.aload_n 0, 1, 0), some (.invokevirtual 133, 3, 110), none, none, some (.ireturn, 1, 0), some (.aload_n 0, 1, 0), some (.iload_n 1, 1, 0), some (.invokevirtual 137, 3, 109), none, none, some (.ifCond .eq 19, 3, 0), none, none, some (.aload_n 0, 1, 0), some (.iload_n 3, 1, 0), some (.invokevirtual 137, 3, 109), none, none, some (.ifCond .eq 11, 3, 0), none, none, some (.iload 4, 2, 0), none, some (.invokestatic 140, 3, 114), none, none, some (.ifCond .ne 5, 3, 0), none, none, some (.iconst (-1), 1, 0), some (.ireturn, 1, 0), some (.aload_n 0, 1, 0), some (.iload_n 1, 1, 0), some (.invokevirtual 108, 3, 101), none, none, some (.istore 5, 2, 0), none, some (.aload_n 0, 1, 0), some (.iload_n 2, 1, 0), some (.invokevirtual 63, 3, 97), none, none, some (.istore 6, 2, 0), none, some (.iload 6, 2, 0), none, some (.ifCond .ge 5, 3, 0), none, none, some (.iconst (-1), 1, 0), some (.ireturn, 1, 0), some (.aload_n 0, 1, 0), some (.getfield 19, 3, 168), none, none, some (.iload 6, 2, 0), none, some (.iaload, 1, 0), some (.istore 7, 2, 0), none, some (.aload_n 0, 1, 0), some (.getfield 22, 3, 169), none, none, some (.iload 6, 2, 0), none, some (.iaload, 1, 0), some (.istore 8, 2, 0), none, some (.aload_n 0, 1, 0), some (.getfield 25, 3, 170), none, none, some (.iload 6, 2, 0), none, some (.laload, 1, 0), some (.lstore 9, 2, 0), none, some (.iload_n 1, 1, 0), some (.iload_n 3, 1, 0), some (.if_icmp .ne 11, 3, 0), none, none, some (.iload_n 2, 1, 0), some (.iload 4, 2, 0), none, some (.if_icmp .ne 5, 3, 0), none, none, some (.iconst 0, 1, 0), some (.ireturn, 1, 0), some (.aload_n 0, 1, 0), some (.iload_n 3, 1, 0), some (.invokevirtual 108, 3, 101), none, none, some (.istore 5, 2, 0), none, some (.aload_n 0, 1, 0), some (.iload 4, 2, 0), none, some (.invokevirtual 63, 3, 97), none, none, some (.istore 11, 2, 0), none, some (.iload 11, 2, 0), none, some (.ifCond .lt 23, 3, 0), none, none, some (.iload 7, 2, 0), none, some (.iconst 2, 1, 0), some (.if_icmp .eq 14, 3, 0), none, none, some (.aload_n 0, 1, 0), some (.getfield 19, 3, 168), none, none, some (.iload 11, 2, 0), none, some (.iaload, 1, 0), some (.iconst 2, 1, 0), some (.if_icmp .ne 6, 3, 0), none, none, some (.bipush (-2), 2, 0), none, some (.ireturn, 1, 0), some (.iload 11, 2, 0), none, some (.ifCond .ge 19, 3, 0), none, none, some (.iload_n 1, 1, 0), some (.iload_n 3, 1, 0), some (.if_icmp .eq 14, 3, 0), none, none, some (.aload_n 0, 1, 0), some (.getfield 60, 3, 171), none, none, some (.iconst 4, 1, 0), some (.if_icmp .ne 6, 3, 0), none, none, some (.bipush (-3), 2, 0), none, some (.ireturn, 1, 0), some (.iload 7, 2, 0), none, some (.iconst 2, 1, 0), some (.if_icmp .ne 20, 3, 0), none, none, some (.aload_n 0, 1, 0), some (.iload 8, 2, 0), none, some (.invokevirtual 117, 3, 108), none, none, some (.iload_n 3, 1, 0), some (.ishr, 1, 0), some (.iconst 1, 1, 0), some (.iand, 1, 0), some (.iconst 1, 1, 0), some (.if_icmp .ne 6, 3, 0), none, none, some (.bipush (-6), 2, 0), none, some (.ireturn, 1, 0), some (.aload_n 0, 1, 0), some (.iconst 0, 1, 0), some (.putfield 111, 3, 176), none, none, some (.iload_n 1, 1, 0), some (.iload_n 3, 1, 0), some (.if_icmp .ne 36, 3, 0), none, none, some (.aload_n 0, 1, 0), some (.iconst 3, 1, 0), some (.invokevirtual 127, 3, 107), none, none, some (.aload_n 0, 1, 0), some (.iload_n 2, 1, 0), some (.invokevirtual 127, 3, 107), none, none, some (.aload_n 0, 1, 0), some (.iload 7, 2, 0), none, some (.iload 4, 2, 0), none, some (.iload 8, 2, 0), none, some (.lload 9, 2, 0), none, some (.invokevirtual 143, 3, 118), none, none, some (.aload_n 0, 1, 0), some (.aload_n 0, 1, 0), some (.iload_n 1, 1, 0), some (.invokevirtual 130, 3, 105), none, none, some (.iconst 0, 1, 0), some (.invokevirtual 123, 3, 111), none, none, some (.ireturn, 1, 0), some (.aload_n 0, 1, 0), some (.iload 7, 2, 0), none, some (.iload 4, 2, 0), none, some (.iload 8, 2, 0), none, some (.lload 9, 2, 0), none, some (.invokevirtual 143, 3, 118), none, none, some (.aload_n 0, 1, 0), some (.iconst 4, 1, 0), some (.invokevirtual 127, 3, 107), none, none, some (.aload_n 0, 1, 0), some (.iload_n 1, 1, 0), some (.invokevirtual 127, 3, 107), none, none, some (.aload_n 0, 1, 0), some (.iload_n 2, 1, 0), some (.invokevirtual 127, 3, 107), none, none, some (.aload_n 0, 1, 0), some (.iload_n 3, 1, 0), some (.invokevirtual 130, 3, 105), none, none, some (.ifCond .ne 6, 3, 0), none, none, some (.bipush (-9), 2, 0), none, some (.ireturn, 1, 0), some (.aload_n 0, 1, 0), some (.iconst 0, 1, 0), some (.putfield 111, 3, 176), none, none, some (.aload_n 0, 1, 0), some (.iconst 3, 1, 0), some (.invokevirtual 127, 3, 107), none, none, some (.aload_n 0, 1, 0), some (.iload_n 2, 1, 0), some (.invokevirtual 127, 3, 107), none, none, some (.aload_n 0, 1, 0), some (.iload_n 1, 1, 0), some (.invokevirtual 130, 3, 105), none, none, some (.ifCond .ne 6, 3, 0), none, none, some (.bipush (-9), 2, 0), none, some (.ireturn, 1, 0), some (.aload_n 0, 1, 0), some (.iconst 0, 1, 0), some (.putfield 111, 3, 176), none, none, some (.aload_n 0, 1, 0), some (.iconst 5, 1, 0), some (.invokevirtual 127, 3, 107), none, none, some (.aload_n 0, 1, 0), some (.aload_n 0, 1, 0), some (.iload_n 3, 1, 0), some (.invokevirtual 130, 3, 105), none, none, some (.iconst 0, 1, 0), some (.invokevirtual 123, 3, 111), none, none, some (.ireturn, 1, 0)]
/-- FlashTreeModel.find (II)I -/
def K120 : List (Option Ent) := [some (.aload_n 0, 1, 0), some (.iload_n 1, 1, 0), some (.invokevirtual 137, 3, 109), none, none, some (.ifCond .ne 5, 3, 0), none, none, some (.iconst (-1), 1, 0), some (.ireturn, 1, 0), some (.aload_n 0, 1, 0), some (.iload_n 1, 1, 0), some (.invokevirtual 108, 3, 101), none, none, some (.istore_n 3, 1, 0), some (.aload_n 0, 1, 0), some (.iload_n 2, 1, 0), some (.invokevirtual 63, 3, 97), none, none, some (.istore 4, 2, 0), none, some (.iload 4, 2, 0), none, some (.ifCond .ge 8, 3, 0), none, none, some (.bipush (-2), 2, 0), none, some (.goto 5, 3, 0), none, none, some (.iload 4, 2, 0), none, some (.ireturn, 1, 0)]
/-- FlashTreeModel.entry (II)I -/
def K121 : List (Option Ent) := [some (.aload_n 0, 1, 0), some (.invokevirtual 133, 3, 110), none, none, some (.ifCond .ge 8, 3, 0), none, none, some (.aload_n 0, 1, 0), some (.invokevirtual 133, 3, 110), none, none, some (.ireturn, 1, 0), some (.aload_n 0, 1, 0), some (.iload_n 1, 1, 0), some (.invokevirtual 137, 3, 109), none, none, some (.ifCond .ne 5, 3, 0), none, none, some (.iconst (-1), 1, 0), some (.ireturn, 1, 0), some (.aload_n 0, 1, 0), some (.iload_n 1, 1, 0), some (.invokevirtual 108, 3, 101), none, none, some (.istore_n 3, 1, 0), some (.iload_n 2, 1, 0), some (.ifCond .lt 20, 3, 0), none, none, some (.iload_n 2, 1, 0), some (.aload_n 0, 1, 0), some (.getfield 60, 3, 171), none, none, some (.if_icmp .ge 12, 3, 0), none, none, some (.aload_n 0, 1, 0), some (.getfield 16, 3, 167), none, none, some (.iload_n 2, 1, 0), some (.iaload, 1, 0), some (.goto 4, 3, 0), none, none, some (.iconst 0, 1, 0), some (.ireturn, 1, 0)]
/-- FlashTreeModel.kind (II)I -/
def K122 : List (Option Ent) := [some (.aload_n 0, 1, 0), some (.invokevirtual 133, 3, 110), none, none, some (.ifCond .ge 8, 3, 0), none, none, some (.aload_n 0, 1, 0), some (.invokevirtual 133, 3, 110), none, none, some (.ireturn, 1, 0), some (.aload_n 0, 1, 0), some (.iload_n 1, 1, 0), some (.iload_n 2, 1, 0), some (.invokevirtual 146, 3, 120), none, none, some (.istore_n 3, 1, 0), some (.iload_n 3, 1, 0), some (.iconst (-1), 1, 0), some (.if_icmp .ne 7, 3, 0), none, none, some (.iconst (-1), 1, 0), some (.goto 19, 3, 0), none, none, some (.iload_n 3, 1, 0), some (.bipush (-2), 2, 0), none, some (.if_icmp .ne 7, 3, 0), none, none, some (.iconst 0, 1, 0), some (.goto 9, 3, 0), none, none, some (.aload_n 0, 1, 0), some (.getfield 19, 3, 168), none, none, some (.iload_n 3, 1, 0), some (.iaload, 1, 0), some (.ireturn, 1, 0)]
/-- FlashTreeModel.size (II)I -/
def K123 : List (Option Ent) := [some (.aload_n 0, 1, 0), some (.invokevirtual 133, 3, 110), none, none, some (.ifCond .ge 8, 3, 0), none, none, some (.aload_n 0, 1, 0), some (.invokevirtual 133, 3, 110), none, none, some (.ireturn, 1, 0), some (.aload_n 0, 1, 0), some (.iload_n 1, 1, 0), some (.iload_n 2, 1, 0), some (.invokevirtual 146, 3, 120), none, none, some (.istore_n 3, 1, 0), some (.iload_n 3, 1, 0), some (.ifCond .lt 13, 3, 0), none, none, some (.aload_n 0, 1, 0), some (.getfield 19, 3, 168), none, none, some (.iload_n 3, 1, 0), some (.iaload, 1, 0), some (.iconst 1, 1, 0), some (.if_icmp .eq 7, 3, 0), none, none, some (.iconst (-1), 1, 0), some (.goto 9, 3, 0), none, none, some (.aload_n 0, 1, 0), some (.getfield 22, 3, 169), none, none, some (.iload_n 3, 1, 0), some (.iaload, 1, 0), some (.ireturn, 1, 0)]
/-- FlashTreeModel.data (II)J -/
def K124 : List (Option Ent) := [some (.aload_n 0, 1, 0), some (.invokevirtual 133, 3, 110), none, none, some (.ifCond .ge 9, 3, 0), none, none, some (.aload_n 0, 1, 0), some (.invokevirtual 133, 3, 110), none, none, some (.i2l, 1, 0), some (.lreturn, 1, 0), some (.aload_n 0, 1, 0), some (.iload_n 1, 1, 0), some (.iload_n 2, 1, 0), some (.invokevirtual 146, 3, 120), none, none, some (.istore_n 3, 1, 0), some (.iload_n 3, 1, 0), some (.ifCond .lt 13, 3, 0), none, none, some (.aload_n 0, 1, 0), some (.getfield 19, 3, 168), none, none, some (.iload_n 3, 1, 0), some (.iaload, 1, 0), some (.iconst 1, 1, 0), some (.if_icmp .eq 9, 3, 0), none, none, some (.ldc2_w 150, 3, 0), none, none, some (.goto 9, 3, 0), none, none, some (.aload_n 0, 1, 0), some (.getfield 25, 3, 170), none, none, some (.iload_n 3, 1, 0), some (.laload, 1, 0), some (.lreturn, 1, 0)]
/-- FlashTreeModel.child (II)I -/
def K125 : List (Option Ent) := [some (.aload_n 0, 1, 0), some (.invokevirtual 133, 3, 110), none, none, some (.ifCond .ge 8, 3, 0), none, none, some (.aload_n 0, 1, 0), some (.invokevirtual 133, 3, 110), none, none, some (.ireturn, 1, 0), some (.aload_n 0, 1, 0), some (.iload_n 1, 1, 0), some (.iload_n 2, 1, 0), some (.invokevirtual 146, 3, 120), none, none, some (.istore_n 3, 1, 0), some (.iload_n 3, 1, 0), some (.ifCond .lt 13, 3, 0), none, none, some (.aload_n 0, 1, 0), some (.getfield 19, 3, 168), none, none, some (.iload_n 3, 1, 0), some (.iaload, 1, 0), some (.iconst 2, 1, 0), some (.if_icmp .eq 7, 3, 0), none, none, some (.iconst (-1), 1, 0), some (.goto 9, 3, 0), none, none, some (.aload_n 0, 1, 0), some (.getfield 22, 3, 169), none, none, some (.iload_n 3, 1, 0), some (.iaload, 1, 0), some (.ireturn, 1, 0)]
/-- FlashTreeModel.free ()I -/
def K126 : List (Option Ent) := [some (.aload_n 0, 1, 0), some (.invokevirtual 133, 3, 110), none, none, some (.ifCond .ge 8, 3, 0), none, none, some (.aload_n 0, 1, 0), some (.invokevirtual 133, 3, 110), none, none, some (.ireturn, 1, 0), some (.aload_n 0, 1, 0), some (.iconst 0, 1, 0), some (.invokevirtual 117, 3, 108), none, none, some (.istore_n 1, 1, 0), some (.iconst 0, 1, 0), some (.istore_n 2, 1, 0), some (.iconst 0, 1, 0), some (.istore_n 3, 1, 0), some (.iload_n 3, 1, 0), some (.bipush 8, 2, 0), none, some (.if_icmp .ge 19, 3, 0), none, none, some (.iload_n 2, 1, 0), some (.iconst 1, 1, 0), some (.iload_n 1, 1, 0), some (.iload_n 3, 1, 0), some (.ishr, 1, 0), some (.iconst 1, 1, 0), some (.iand, 1, 0), some (.isub, 1, 0), some (.iadd, 1, 0), some (.istore_n 2, 1, 0), some (.iinc 3 1, 3, 0), none, none, some (.goto (-19), 3, 0), none, none, some (.iload_n 2, 1, 0), some (.ireturn, 1, 0)]
/-- FlashTreeModel.byteAt (II)I -/
def K127 : List (Option Ent) := [some (.iload_n 1, 1, 0), some (.ifCond .lt 19, 3, 0), none, none, some (.iload_n 1, 1, 0), some (.bipush 15, 2, 0), none, some (.if_icmp .gt 13, 3, 0), none, none, some (.iload_n 2, 1, 0), some (.ifCond .lt 9, 3, 0), none, none, some (.iload_n 2, 1, 0), some (.bipush 63, 2, 0), none, some (.if_icmp .le 7, 3, 0), none, none, some (.iconst (-1), 1, 0), some (.goto 14, 3, 0), none, none, some (.aload_n 0, 1, 0), some (.getfield 7, 3, 160), none, none, some (.bipush 64, 2, 0), none, some (.iload_n 1, 1, 0), some (.imul, 1, 0), some (.iload_n 2, 1, 0), some (.iadd, 1, 0), some (.iaload, 1, 0), some (.ireturn, 1, 0)]
/-- FlashTreeModel.wear (I)I -/
def K128 : List (Option Ent) := [some (.iload_n 1, 1, 0), some (.ifCond .lt 9, 3, 0), none, none, some (.iload_n 1, 1, 0), some (.bipush 15, 2, 0), none, some (.if_icmp .le 7, 3, 0), none, none, some (.iconst (-1), 1, 0), some (.goto 9, 3, 0), none, none, some (.aload_n 0, 1, 0), some (.getfield 13, 3, 161), none, none, some (.iload_n 1, 1, 0), some (.iaload, 1, 0), some (.ireturn, 1, 0)]
/-- FlashTreeModel.units ()I -/
def K129 : List (Option Ent) := [some (.aload_n 0, 1, 0), some (.getfield 49, 3, 166), none, none, some (.ireturn, 1, 0)]
/-- FlashTreeLaw.law ([I)Z -/
def K130 : List (Option Ent) := [some (.new 7, 3, 4), none, none, some (.dup, 1, 0), some (.invokespecial 9, 3, 53), none, none, some (.astore_n 1, 1, 0), some (.new 10, 3, 5), none, none, some (.dup, 1, 0), some (.invokespecial 12, 3, 88), none, none, some (.astore_n 2, 1, 0), some (.iconst 0, 1, 0), some (.istore_n 3, 1, 0), some (.iload_n 3, 1, 0), some (.aload_n 0, 1, 0), some (.arraylength, 1, 0), some (.bipush 6, 2, 0), none, some (.isub, 1, 0), some (.if_icmp .gt 623, 3, 0), none, none, some (.aload_n 0, 1, 0), some (.iload_n 3, 1, 0), some (.iaload, 1, 0), some (.bipush 31, 2, 0), none, some (.iand, 1, 0), some (.tableswitch 608 0 17 #[87, 108, 121, 132, 145, 158, 191, 274, 307, 360, 393, 426, 459, 493, 526, 539, 572, 595], 87, 0), none, none, none, none, none, none, none, none, none, none, none, none, none, none, none, none, none, none, none, none, none, none, none, none, none, none, none, none, none, none, none, none, none, none, none, none, none, none, none, none, none, none, none, none, none, none, none, none, none, none, none, none, none, none, none, none, none, none, none, none, none, none, none, none, none, none, none, none, none, none, none, none, none, none, none, none, none, none, none, none, none, none, none, none, none, none, some (.aload_n 1, 1, 0), some (.aload_n 0, 1, 0), some (.iload_n 3, 1, 0), some (.iconst 1, 1, 0), some (.iadd, 1, 0), some (.iaload, 1, 0), some (.invokevirtual 13, 3, 54), none, none, some (.aload_n 2, 1, 0), some (.aload_n 0, 1, 0), some (.iload_n 3, 1, 0), some (.iconst 1, 1, 0), some (.iadd, 1, 0), some (.iaload, 1, 0), some (.invokevirtual 17, 3, 89), none, none, some (.goto 503, 3, 0), none, none, some (.aload_n 1, 1, 0), some (.invokevirtual 18, 3, 55), none, none, some (.aload_n 2, 1, 0), some (.invokevirtual 22, 3, 90), none, none, some (.if_icmp .eq 492, 3, 0), none, none, some (.iconst 0, 1, 0), some (.ireturn, 1, 0), some (.aload_n 1, 1, 0), some (.invokevirtual 23, 3, 56), none, none, some (.aload_n 2, 1, 0), some (.invokevirtual 26, 3, 91), none, none, some (.goto 479, 3, 0), none, none, some (.aload_n 1, 1, 0), some (.invokevirtual 27, 3, 57), none, none, some (.aload_n 2, 1, 0), some (.invokevirtual 31, 3, 112), none, none, some (.if_icmp .eq 468, 3, 0), none, none, some (.iconst 0, 1, 0), some (.ireturn, 1, 0), some (.aload_n 1, 1, 0), some (.invokevirtual 32, 3, 58), none, none, some (.aload_n 2, 1, 0), some (.invokevirtual 35, 3, 113), none, none, some (.if_icmp .eq 455, 3, 0), none, none, some (.iconst 0, 1, 0), some (.ireturn, 1, 0), some (.aload_n 1, 1, 0), some (.aload_n 0, 1, 0), some (.iload_n 3, 1, 0), some (.iconst 1, 1, 0), some (.iadd, 1, 0), some (.iaload, 1, 0), some (.aload_n 0, 1, 0), some (.iload_n 3, 1, 0), some (.iconst 2, 1, 0), some (.iadd, 1, 0), some (.iaload, 1, 0), some (.invokevirtual 36, 3, 59), none, none, some (.aload_n 2, 1, 0), some (.aload_n 0, 1, 0), some (.iload_n 3, 1, 0), some (.iconst 1, 1, 0), some (.iadd, 1, 0), some (.iaload, 1, 0), some (.aload_n 0, 1, 0), some (.iload_n 3, 1, 0), some (.iconst 2, 1, 0), some (.iadd, 1, 0), some (.iaload, 1, 0), some (.invokevirtual 40, 3, 115), none, none, some (.if_icmp .eq 422, 3, 0), none, none, some (.iconst 0, 1, 0), some (.ireturn, 1, 0), some (.aload_n 1, 1, 0), some (.aload_n 0, 1, 0), some (.iload_n 3, 1, 0), some (.iconst 1, 1, 0), some (.iadd, 1, 0), some (.iaload, 1, 0), some (.aload_n 0, 1, 0), some (.iload_n 3, 1, 0), some (.iconst 2, 1, 0), some (.iadd, 1, 0), some (.iaload, 1, 0), some (.aload_n 0, 1, 0), some (.iload_n 3, 1, 0), some (.iconst 3, 1, 0), some (.iadd, 1, 0), some (.iaload, 1, 0), some (.aload_n 0, 1, 0), some (.iload_n 3, 1, 0), some (.iconst 4, 1, 0), some (.iadd, 1, 0), some (.iaload, 1, 0), some (.i2l, 1, 0), some (.bipush 32, 2, 0), none, some (.lshl, 1, 0), some (.aload_n 0, 1, 0), some (.iload_n 3, 1, 0), some (.iconst 5, 1, 0), some (.iadd, 1, 0), some (.iaload, 1, 0), some (.i2l, 1, 0), some (.ldc2_w 41, 3, 1), none, none, some (.land, 1, 0), some (.lor, 1, 0), some (.invokevirtual 43, 3, 60), none, none, some (.aload_n 2, 1, 0), some (.aload_n 0, 1, 0), some (.iload_n 3, 1, 0), some (.iconst 1, 1, 0), some (.iadd, 1, 0), some (.iaload, 1, 0), some (.aload_n 0, 1, 0), some (.iload_n 3, 1, 0), some (.iconst 2, 1, 0), some (.iadd, 1, 0), some (.iaload, 1, 0), some (.aload_n 0, 1, 0), some (.iload_n 3, 1, 0), some (.iconst 3, 1, 0), some (.iadd, 1, 0), some (.iaload, 1, 0), some (.aload_n 0, 1, 0), some (.iload_n 3, 1, 0), some (.iconst 4, 1, 0), some (.iadd, 1, 0), some (.iaload, 1, 0), some (.i2l, 1, 0), some (.bipush 32, 2, 0), none, some (.lshl, 1, 0), some (.aload_n 0, 1, 0), some (.iload_n 3, 1, 0), some (.iconst 5, 1, 0), some (.iadd, 1, 0), some (.iaload, 1, 0), some (.i2l, 1, 0), some (.ldc2_w 41, 3, 1), none, none, some (.land, 1, 0), some (.lor, 1, 0), some (.invokevirtual 47, 3, 116), none, none, some (.if_icmp .eq 339, 3, 0), none, none, some (.iconst 0, 1, 0), some (.ireturn, 1, 0), some (.aload_n 1, 1, 0), some (.aload_n 0, 1, 0), some (.iload_n 3, 1, 0), some (.iconst 1, 1, 0), some (.iadd, 1, 0), some (.iaload, 1, 0), some (.aload_n 0, 1, 0), some (.iload_n 3, 1, 0), some (.iconst 2, 1, 0), some (.iadd, 1, 0), some (.iaload, 1, 0), some (.invokevirtual 48, 3, 61), none, none, some (.aload_n 2, 1, 0), some (.aload_n 0, 1, 0), some (.iload_n 3, 1, 0), some (.iconst 1, 1, 0), some (.iadd, 1, 0), some (.iaload, 1, 0), some (.aload_n 0, 1, 0), some (.iload_n 3, 1, 0), some (.iconst 2, 1, 0), some (.iadd, 1, 0), some (.iaload, 1, 0), some (.invokevirtual 51, 3, 117), none, none, some (.if_icmp .eq 306, 3, 0), none, none, some (.iconst 0, 1, 0), some (.ireturn, 1, 0), some (.aload_n 1, 1, 0), some (.aload_n 0, 1, 0), some (.iload_n 3, 1, 0), some (.iconst 1, 1, 0), some (.iadd, 1, 0), some (.iaload, 1, 0), some (.aload_n 0, 1, 0), some (.iload_n 3, 1, 0), some (.iconst 2, 1, 0), some (.iadd, 1, 0), some (.iaload, 1, 0), some (.aload_n 0, 1, 0), some (.iload_n 3, 1, 0), some (.iconst 3, 1, 0), some (.iadd, 1, 0), some (.iaload, 1, 0), some (.aload_n 0, 1, 0), some (.iload_n 3, 1, 0), some (.iconst 4, 1, 0), some (.iadd, 1, 0), some (.iaload, 1, 0), some (.invokevirtual 52, 3, 62), none, none, some (.aload_n 2, 1, 0), some (.aload_n 0, 1, 0), some (.iload_n 3, 1, 0), some (.iconst 1, 1, 0), some (.iadd, 1, 0), some (.iaload, 1, 0), some (.aload_n 0, 1, 0), some (.iload_n 3, 1, 0), some (.iconst 2, 1, 0), some (.iadd, 1, 0), some (.iaload, 1, 0), some (.aload_n 0, 1, 0), some (.iload_n 3, 1, 0), some (.iconst 3, 1, 0), some (.iadd, 1, 0), some (.iaload, 1, 0), some (.aload_n 0, 1, 0), some (.iload_n 3, 1, 0), some (.iconst 4, 1, 0), some (.iadd, 1, 0), some (.iaload, 1, 0), some (.invokevirtual 56, 3, 119), none, none, some (.if_icmp .eq 253, 3, 0), none, none, some (.iconst 0, 1, 0), some (.ireturn, 1, 0), some (.aload_n 1, 1, 0), some (.aload_n 0, 1, 0), some (.iload_n 3, 1, 0), some (.iconst 1, 1, 0), some (.iadd, 1, 0), some (.iaload, 1, 0), some (.aload_n 0, 1, 0), some (.iload_n 3, 1, 0), some (.iconst 2, 1, 0), some (.iadd, 1, 0), some (.iaload, 1, 0), some (.invokevirtual 57, 3, 63), none, none, some (.aload_n 2, 1, 0), some (.aload_n 0, 1, 0), some (.iload_n 3, 1, 0), some (.iconst 1, 1, 0), some (.iadd, 1, 0), some (.iaload, 1, 0), some (.aload_n 0, 1, 0), some (.iload_n 3, 1, 0), some (.iconst 2, 1, 0), some (.iadd, 1, 0), some (.iaload, 1, 0), some (.invokevirtual 60, 3, 121), none, none, some (.if_icmp .eq 220, 3, 0), none, none, some (.iconst 0, 1, 0), some (.ireturn, 1, 0), some (.aload_n 1, 1, 0), some (.aload_n 0, 1, 0), some (.iload_n 3, 1, 0), some (.iconst 1, 1, 0), some (.iadd, 1, 0), some (.iaload, 1, 0), some (.aload_n 0, 1, 0), some (.iload_n 3, 1, 0), some (.iconst 2, 1, 0), some (.iadd, 1, 0), some (.iaload, 1, 0), some (.invokevirtual 61, 3, 64), none, none, some (.aload_n 2, 1, 0), some (.aload_n 0, 1, 0), some (.iload_n 3, 1, 0), some (.iconst 1, 1, 0), some (.iadd, 1, 0), some (.iaload, 1, 0), some (.aload_n 0, 1, 0), some (.iload_n 3, 1, 0), some (.iconst 2, 1, 0), some (.iadd, 1, 0), some (.iaload, 1, 0), some (.invokevirtual 64, 3, 122), none, none, some (.if_icmp .eq 187, 3, 0), none, none, some (.iconst 0, 1, 0), some (.ireturn, 1, 0), some (.aload_n 1, 1, 0), some (.aload_n 0, 1, 0), some (.iload_n 3, 1, 0), some (.iconst 1, 1, 0), some (.iadd, 1, 0), some (.iaload, 1, 0), some (.aload_n 0, 1, 0), some (.iload_n 3, 1, 0), some (.iconst 2, 1, 0), some (.iadd, 1, 0), some (.iaload, 1, 0), some (.invokevirtual 65, 3, 65), none, none, some (.aload_n 2, 1, 0), some (.aload_n 0, 1, 0), some (.iload_n 3, 1, 0), some (.iconst 1, 1, 0), some (.iadd, 1, 0), some (.iaload, 1, 0), some (.aload_n 0, 1, 0), some (.iload_n 3, 1, 0), some (.iconst 2, 1, 0), some (.iadd, 1, 0), some (.iaload, 1, 0), some (.invokevirtual 68, 3, 123), none, none, some (.if_icmp .eq 154, 3, 0), none, none, some (.iconst 0, 1, 0), some (.ireturn, 1, 0), some (.aload_n 1, 1, 0), some (.aload_n 0, 1, 0), some (.iload_n 3, 1, 0), some (.iconst 1, 1, 0), some (.iadd, 1, 0), some (.iaload, 1, 0), some (.aload_n 0, 1, 0), some (.iload_n 3, 1, 0), some (.iconst 2, 1, 0), some (.iadd, 1, 0), some (.iaload, 1, 0), some (.invokevirtual 69, 3, 66), none, none, some (.aload_n 2, 1, 0), some (.aload_n 0, 1, 0), some (.iload_n 3, 1, 0), some (.iconst 1, 1, 0), some (.iadd, 1, 0), some (.iaload, 1, 0), some (.aload_n 0, 1, 0), some (.iload_n 3, 1, 0), some (.iconst 2, 1, 0), some (.iadd, 1, 0), some (.iaload, 1, 0), some (.invokevirtual 73, 3, 124), none, none, some (.lcmp, 1, 0), some (.ifCond .eq 120, 3, 0), none, none, some (.iconst 0, 1, 0), some (.ireturn, 1, 0), some (.aload_n 1, 1, 0), some (.aload_n 0, 1, 0), some (.iload_n 3, 1, 0), some (.iconst 1, 1, 0), some (.iadd, 1, 0), some (.iaload, 1, 0), some (.aload_n 0, 1, 0), some (.iload_n 3, 1, 0), some (.iconst 2, 1, 0), some (.iadd, 1, 0), some (.iaload, 1, 0), some (.invokevirtual 74, 3, 67), none, none, some (.aload_n 2, 1, 0), some (.aload_n 0, 1, 0), some (.iload_n 3, 1, 0), some (.iconst 1, 1, 0), some (.iadd, 1, 0), some (.iaload, 1, 0), some (.aload_n 0, 1, 0), some (.iload_n 3, 1, 0), some (.iconst 2, 1, 0), some (.iadd, 1, 0), some (.iaload, 1, 0), some (.invokevirtual 77, 3, 125), none, none, some (.if_icmp .eq 87, 3, 0), none, none, some (.iconst 0, 1, 0), some (.ireturn, 1, 0), some (.aload_n 1, 1, 0), some (.invokevirtual 78, 3, 68), none, none, some (.aload_n 2, 1, 0), some (.invokevirtual 81, 3, 126), none, none, some (.if_icmp .eq 74, 3, 0), none, none, some (.iconst 0, 1, 0), some (.ireturn, 1, 0), some (.aload_n 1, 1, 0), some (.aload_n 0, 1, 0), some (.iload_n 3, 1, 0), some (.iconst 1, 1, 0), some (.iadd, 1, 0), some (.iaload, 1, 0), some (.aload_n 0, 1, 0), some (.iload_n 3, 1, 0), some (.iconst 2, 1, 0), some (.iadd, 1, 0), some (.iaload, 1, 0), some (.invokevirtual 82, 3, 69), none, none, some (.aload_n 2, 1, 0), some (.aload_n 0, 1, 0), some (.iload_n 3, 1, 0), some (.iconst 1, 1, 0), some (.iadd, 1, 0), some (.iaload, 1, 0), some (.aload_n 0, 1, 0), some (.iload_n 3, 1, 0), some (.iconst 2, 1, 0), some (.iadd, 1, 0), some (.iaload, 1, 0), some (.invokevirtual 85, 3, 127), none, none, some (.if_icmp .eq 41, 3, 0), none, none, some (.iconst 0, 1, 0), some (.ireturn, 1, 0), some (.aload_n 1, 1, 0), some (.aload_n 0, 1, 0), some (.iload_n 3, 1, 0), some (.iconst 1, 1, 0), some (.iadd, 1, 0), some (.iaload, 1, 0), some (.invokevirtual 86, 3, 70), none, none, some (.aload_n 2, 1, 0), some (.aload_n 0, 1, 0), some (.iload_n 3, 1, 0), some (.iconst 1, 1, 0), some (.iadd, 1, 0), some (.iaload, 1, 0), some (.invokevirtual 90, 3, 128), none, none, some (.if_icmp .eq 18, 3, 0), none, none, some (.iconst 0, 1, 0), some (.ireturn, 1, 0), some (.aload_n 1, 1, 0), some (.invokevirtual 91, 3, 71), none, none, some (.aload_n 2, 1, 0), some (.invokevirtual 94, 3, 129), none, none, some (.if_icmp .eq 5, 3, 0), none, none, some (.iconst 0, 1, 0), some (.ireturn, 1, 0), some (.iinc 3 6, 3, 0), none, none, some (.goto (-626), 3, 0), none, none, some (.iconst 1, 1, 0), some (.ireturn, 1, 0)]
/-- class number, name, descriptor, bytes, max locals, return type, code, number of arguments (the receiver not counted), frames and words of locals below -/
abbrev Mrow : Type := Nat × String × String × ByteArray × Nat × Option FieldType × List (Option Ent) × Nat × Nat × Nat
def Q0 : Mrow := (0, "<init>", "()V", prog_2_method_1_code, 2, none, K0, 0, 1, 12)
def Q1 : Mrow := (0, "setCut", "(I)V", prog_2_method_2_code, 2, none, K1, 1, 0, 0)
def Q2 : Mrow := (0, "powerUp", "()V", prog_2_method_3_code, 1, none, K2, 0, 0, 0)
def Q3 : Mrow := (0, "isDark", "()Z", prog_2_method_4_code, 1, (some .boolean), K3, 0, 0, 0)
def Q4 : Mrow := (0, "unitsDone", "()I", prog_2_method_5_code, 1, (some .int), K4, 0, 0, 0)
def Q5 : Mrow := (0, "erasuresOf", "(I)I", prog_2_method_6_code, 2, (some .int), K5, 1, 1, 20)
def Q6 : Mrow := (0, "peek", "(II)I", prog_2_method_7_code, 3, (some .int), K6, 2, 1, 20)
def Q7 : Mrow := (0, "program", "(III)Z", prog_2_method_8_code, 4, (some .boolean), K7, 3, 1, 20)
def Q8 : Mrow := (0, "erase", "(I)Z", prog_2_method_9_code, 3, (some .boolean), K8, 1, 1, 20)
def Q9 : Mrow := (0, "behindRecord", "(II)I", prog_2_method_10_code, 5, (some .int), K9, 2, 2, 42)
def Q10 : Mrow := (0, "spendUnit", "()Z", prog_2_method_11_code, 1, (some .boolean), K10, 0, 0, 0)
def Q11 : Mrow := (0, "isBlock", "(I)Z", prog_2_method_12_code, 1, (some .boolean), K11, 1, 0, 0)
def Q12 : Mrow := (0, "isOffset", "(I)Z", prog_2_method_13_code, 1, (some .boolean), K12, 1, 0, 0)
def Q13 : Mrow := (1, "<init>", "(ILFlashTree$Flash;LFlashTree$Operations;)V", prog_3_method_1_code, 4, none, K13, 3, 2, 32)
def Q14 : Mrow := (1, "activeBlock", "()I", prog_3_method_2_code, 5, (some .int), K14, 0, 3, 66)
def Q15 : Mrow := (1, "load", "()V", prog_3_method_3_code, 5, none, K15, 0, 4, 95)
def Q16 : Mrow := (1, "begin", "()Z", prog_3_method_4_code, 1, (some .boolean), K16, 0, 6, 131)
def Q17 : Mrow := (1, "commit", "(LFlashTree$Operations;)Z", prog_3_method_5_code, 4, (some .boolean), K17, 1, 6, 131)
def Q18 : Mrow := (1, "isNewer", "(II)Z", prog_3_method_6_code, 4, (some .boolean), K18, 2, 2, 42)
def Q19 : Mrow := (1, "logEnd", "(I)I", prog_3_method_7_code, 5, (some .int), K19, 1, 3, 66)
def Q20 : Mrow := (1, "readOperations", "(II)V", prog_3_method_8_code, 5, none, K20, 2, 2, 42)
def Q21 : Mrow := (1, "writeAnew", "(I)Z", prog_3_method_9_code, 4, (some .boolean), K21, 1, 5, 108)
def Q22 : Mrow := (1, "programRecord", "(IILFlashTree$Operations;)Z", prog_3_method_10_code, 5, (some .boolean), K22, 3, 2, 43)
def Q23 : Mrow := (2, "<init>", "()V", prog_4_method_1_code, 1, none, K23, 0, 1, 12)
def Q24 : Mrow := (2, "clear", "()V", prog_4_method_2_code, 1, none, K24, 0, 0, 0)
def Q25 : Mrow := (2, "isEmpty", "()Z", prog_4_method_3_code, 1, (some .boolean), K25, 0, 0, 0)
def Q26 : Mrow := (2, "isFull", "()Z", prog_4_method_4_code, 1, (some .boolean), K26, 0, 0, 0)
def Q27 : Mrow := (2, "hasMark", "()Z", prog_4_method_5_code, 1, (some .boolean), K27, 0, 0, 0)
def Q28 : Mrow := (2, "find", "(I)I", prog_4_method_6_code, 3, (some .int), K28, 1, 0, 0)
def Q29 : Mrow := (2, "findFile", "(I)I", prog_4_method_7_code, 3, (some .int), K29, 1, 3, 63)
def Q30 : Mrow := (2, "isFolder", "(I)Z", prog_4_method_8_code, 2, (some .boolean), K30, 1, 2, 42)
def Q31 : Mrow := (2, "nameAt", "(I)I", prog_4_method_9_code, 2, (some .int), K31, 1, 1, 21)
def Q32 : Mrow := (2, "pairAt", "(I)I", prog_4_method_10_code, 2, (some .int), K32, 1, 1, 21)
def Q33 : Mrow := (2, "lengthAt", "(I)I", prog_4_method_11_code, 2, (some .int), K33, 1, 1, 21)
def Q34 : Mrow := (2, "contentAt", "(I)J", prog_4_method_12_code, 2, (some .long), K34, 1, 1, 21)
def Q35 : Mrow := (2, "addEntryTo", "(LFlashTree$Operations;II)V", prog_4_method_13_code, 4, none, K35, 3, 3, 63)
def Q36 : Mrow := (2, "addAllTo", "(LFlashTree$Operations;)V", prog_4_method_14_code, 3, none, K36, 1, 4, 86)
def Q37 : Mrow := (2, "apply", "(LFlashTree$Operations;)V", prog_4_method_15_code, 4, none, K37, 1, 3, 72)
def Q38 : Mrow := (2, "applyOne", "(LFlashTree$Operations;I)I", prog_4_method_16_code, 5, (some .int), K38, 2, 2, 48)
def Q39 : Mrow := (2, "put", "(IIIJ)V", prog_4_method_17_code, 7, none, K39, 4, 1, 22)
def Q40 : Mrow := (2, "takeOut", "(I)V", prog_4_method_18_code, 3, none, K40, 1, 1, 21)
def Q41 : Mrow := (2, "isPlace", "(I)Z", prog_4_method_19_code, 2, (some .boolean), K41, 1, 0, 0)
def Q42 : Mrow := (3, "<init>", "()V", prog_5_method_1_code, 1, none, K42, 0, 1, 12)
def Q43 : Mrow := (3, "clear", "()V", prog_5_method_2_code, 1, none, K43, 0, 0, 0)
def Q44 : Mrow := (3, "length", "()I", prog_5_method_3_code, 1, (some .int), K44, 0, 0, 0)
def Q45 : Mrow := (3, "at", "(I)I", prog_5_method_4_code, 2, (some .int), K45, 1, 0, 0)
def Q46 : Mrow := (3, "add", "(I)V", prog_5_method_5_code, 2, none, K46, 1, 0, 0)
def Q47 : Mrow := (3, "addFile", "(IIJ)V", prog_5_method_6_code, 6, none, K47, 3, 1, 21)
def Q48 : Mrow := (3, "addFolder", "(II)V", prog_5_method_7_code, 3, none, K48, 2, 1, 21)
def Q49 : Mrow := (3, "addGone", "(I)V", prog_5_method_8_code, 2, none, K49, 1, 1, 21)
def Q50 : Mrow := (3, "addMark", "(II)V", prog_5_method_9_code, 3, none, K50, 2, 1, 21)
def Q51 : Mrow := (3, "addNoMark", "()V", prog_5_method_10_code, 1, none, K51, 0, 1, 21)
def Q52 : Mrow := (3, "contentAt", "(II)J", prog_5_method_11_code, 6, (some .long), K52, 2, 1, 21)
def Q53 : Mrow := (4, "<init>", "()V", prog_1_method_1_code, 4, none, K53, 0, 3, 55)
def Q54 : Mrow := (4, "cut", "(I)V", prog_1_method_2_code, 2, none, K54, 1, 1, 21)
def Q55 : Mrow := (4, "off", "()Z", prog_1_method_3_code, 1, (some .boolean), K55, 0, 1, 20)
def Q56 : Mrow := (4, "on", "()V", prog_1_method_4_code, 1, none, K56, 0, 1, 20)
def Q57 : Mrow := (4, "format", "()I", prog_1_method_5_code, 2, (some .int), K57, 0, 7, 151)
def Q58 : Mrow := (4, "mount", "()I", prog_1_method_6_code, 2, (some .int), K58, 0, 9, 199)
def Q59 : Mrow := (4, "make", "(II)I", prog_1_method_7_code, 6, (some .int), K59, 2, 7, 154)
def Q60 : Mrow := (4, "write", "(IIIJ)I", prog_1_method_8_code, 8, (some .int), K60, 4, 7, 154)
def Q61 : Mrow := (4, "remove", "(II)I", prog_1_method_9_code, 6, (some .int), K61, 2, 7, 154)
def Q62 : Mrow := (4, "rename", "(IIII)I", prog_1_method_10_code, 10, (some .int), K62, 4, 8, 179)
def Q63 : Mrow := (4, "entry", "(II)I", prog_1_method_11_code, 4, (some .int), K63, 2, 3, 62)
def Q64 : Mrow := (4, "kind", "(II)I", prog_1_method_12_code, 5, (some .int), K64, 2, 3, 63)
def Q65 : Mrow := (4, "size", "(II)I", prog_1_method_13_code, 5, (some .int), K65, 2, 4, 85)
def Q66 : Mrow := (4, "data", "(II)J", prog_1_method_14_code, 5, (some .long), K66, 2, 4, 85)
def Q67 : Mrow := (4, "child", "(II)I", prog_1_method_15_code, 5, (some .int), K67, 2, 3, 63)
def Q68 : Mrow := (4, "free", "()I", prog_1_method_16_code, 3, (some .int), K68, 0, 2, 40)
def Q69 : Mrow := (4, "byteAt", "(II)I", prog_1_method_17_code, 3, (some .int), K69, 2, 2, 42)
def Q70 : Mrow := (4, "wear", "(I)I", prog_1_method_18_code, 2, (some .int), K70, 1, 2, 41)
def Q71 : Mrow := (4, "units", "()I", prog_1_method_19_code, 1, (some .int), K71, 0, 1, 20)
def Q72 : Mrow := (4, "refusal", "()I", prog_1_method_20_code, 1, (some .int), K72, 0, 1, 20)
def Q73 : Mrow := (4, "ended", "(ZI)I", prog_1_method_21_code, 3, (some .int), K73, 2, 3, 69)
def Q74 : Mrow := (4, "isName", "(I)Z", prog_1_method_22_code, 1, (some .boolean), K74, 1, 0, 0)
def Q75 : Mrow := (4, "isPair", "(I)Z", prog_1_method_23_code, 1, (some .boolean), K75, 1, 0, 0)
def Q76 : Mrow := (4, "folderAt", "(I)LFlashTree$Folder;", prog_1_method_24_code, 2, (some (.object "FlashTree$Folder")), K76, 1, 1, 20)
def Q77 : Mrow := (4, "folderReached", "(I)LFlashTree$Folder;", prog_1_method_25_code, 2, (some (.object "FlashTree$Folder")), K77, 1, 1, 20)
def Q78 : Mrow := (4, "folderThere", "(I)LFlashTree$Folder;", prog_1_method_26_code, 2, (some (.object "FlashTree$Folder")), K78, 1, 2, 41)
def Q79 : Mrow := (4, "lowestFreePair", "()I", prog_1_method_27_code, 2, (some .int), K79, 0, 0, 0)
def Q80 : Mrow := (4, "loadAll", "()V", prog_1_method_28_code, 3, none, K80, 0, 5, 119)
def Q81 : Mrow := (4, "reach", "(I[Z)V", prog_1_method_29_code, 8, none, K81, 2, 2, 42)
def Q82 : Mrow := (4, "finishMove", "()Z", prog_1_method_30_code, 3, (some .boolean), K82, 0, 8, 177)
def Q83 : Mrow := (4, "finishMoveTo", "(LFlashTree$Folder;)Z", prog_1_method_31_code, 4, (some .boolean), K83, 1, 7, 154)
def Q84 : Mrow := (4, "moveRefusal", "(LFlashTree$Folder;ILFlashTree$Folder;I)I", prog_1_method_32_code, 7, (some .int), K84, 4, 4, 91)
def Q85 : Mrow := (4, "isWithin", "(II)Z", prog_1_method_33_code, 3, (some .boolean), K85, 2, 3, 69)
def Q86 : Mrow := (4, "moveWithin", "(LFlashTree$Folder;II)Z", prog_1_method_34_code, 4, (some .boolean), K86, 3, 7, 154)
def Q87 : Mrow := (4, "moveAcross", "(LFlashTree$Folder;ILFlashTree$Folder;I)Z", prog_1_method_35_code, 6, (some .boolean), K87, 4, 7, 154)
def Q88 : Mrow := (5, "<init>", "()V", prog_7_method_1_code, 2, none, K88, 0, 1, 12)
def Q89 : Mrow := (5, "cut", "(I)V", prog_7_method_2_code, 2, none, K89, 1, 0, 0)
def Q90 : Mrow := (5, "off", "()Z", prog_7_method_3_code, 1, (some .boolean), K90, 0, 0, 0)
def Q91 : Mrow := (5, "on", "()V", prog_7_method_4_code, 1, none, K91, 0, 0, 0)
def Q92 : Mrow := (5, "spend", "()Z", prog_7_method_5_code, 1, (some .boolean), K92, 0, 0, 0)
def Q93 : Mrow := (5, "program", "(II)Z", prog_7_method_6_code, 3, (some .boolean), K93, 2, 1, 20)
def Q94 : Mrow := (5, "erase", "(I)Z", prog_7_method_7_code, 3, (some .boolean), K94, 1, 1, 20)
def Q95 : Mrow := (5, "counts", "(I)Z", prog_7_method_8_code, 3, (some .boolean), K95, 1, 0, 0)
def Q96 : Mrow := (5, "active", "(I)I", prog_7_method_9_code, 5, (some .int), K96, 1, 1, 22)
def Q97 : Mrow := (5, "at", "(I)I", prog_7_method_10_code, 3, (some .int), K97, 1, 0, 0)
def Q98 : Mrow := (5, "put", "(IIIJ)V", prog_7_method_11_code, 7, none, K98, 4, 1, 22)
def Q99 : Mrow := (5, "take", "(I)V", prog_7_method_12_code, 4, none, K99, 1, 1, 22)
def Q100 : Mrow := (5, "apply", "([III)V", prog_7_method_13_code, 11, none, K100, 3, 2, 48)
def Q101 : Mrow := (5, "read", "(I)I", prog_7_method_14_code, 7, (some .int), K101, 1, 3, 78)
def Q102 : Mrow := (5, "record", "(II[II)Z", prog_7_method_15_code, 6, (some .boolean), K102, 4, 2, 42)
def Q103 : Mrow := (5, "add", "(I)V", prog_7_method_16_code, 2, none, K103, 1, 0, 0)
def Q104 : Mrow := (5, "writeAnew", "(I)Z", prog_7_method_17_code, 4, (some .boolean), K104, 1, 3, 67)
def Q105 : Mrow := (5, "commit", "(I)Z", prog_7_method_18_code, 3, (some .boolean), K105, 1, 4, 104)
def Q106 : Mrow := (5, "beginPair", "(I)Z", prog_7_method_19_code, 3, (some .boolean), K106, 1, 4, 104)
def Q107 : Mrow := (5, "say", "(I)V", prog_7_method_20_code, 2, none, K107, 1, 0, 0)
def Q108 : Mrow := (5, "from", "(I)I", prog_7_method_21_code, 7, (some .int), K108, 1, 4, 104)
def Q109 : Mrow := (5, "there", "(I)Z", prog_7_method_22_code, 2, (some .boolean), K109, 1, 5, 130)
def Q110 : Mrow := (5, "ready", "()I", prog_7_method_23_code, 1, (some .int), K110, 0, 0, 0)
def Q111 : Mrow := (5, "done", "(ZI)I", prog_7_method_24_code, 3, (some .int), K111, 2, 0, 0)
def Q112 : Mrow := (5, "format", "()I", prog_7_method_25_code, 1, (some .int), K112, 0, 5, 126)
def Q113 : Mrow := (5, "mount", "()I", prog_7_method_26_code, 7, (some .int), K113, 0, 5, 130)
def Q114 : Mrow := (5, "named", "(I)Z", prog_7_method_27_code, 1, (some .boolean), K114, 1, 0, 0)
def Q115 : Mrow := (5, "make", "(II)I", prog_7_method_28_code, 7, (some .int), K115, 2, 6, 151)
def Q116 : Mrow := (5, "write", "(IIIJ)I", prog_7_method_29_code, 9, (some .int), K116, 4, 6, 151)
def Q117 : Mrow := (5, "remove", "(II)I", prog_7_method_30_code, 5, (some .int), K117, 2, 6, 151)
def Q118 : Mrow := (5, "sayEntry", "(IIIJ)V", prog_7_method_31_code, 7, none, K118, 4, 1, 21)
def Q119 : Mrow := (5, "rename", "(IIII)I", prog_7_method_32_code, 12, (some .int), K119, 4, 6, 151)
def Q120 : Mrow := (5, "find", "(II)I", prog_7_method_33_code, 5, (some .int), K120, 2, 6, 151)
def Q121 : Mrow := (5, "entry", "(II)I", prog_7_method_34_code, 4, (some .int), K121, 2, 6, 151)
def Q122 : Mrow := (5, "kind", "(II)I", prog_7_method_35_code, 4, (some .int), K122, 2, 7, 175)
def Q123 : Mrow := (5, "size", "(II)I", prog_7_method_36_code, 4, (some .int), K123, 2, 7, 175)
def Q124 : Mrow := (5, "data", "(II)J", prog_7_method_37_code, 4, (some .long), K124, 2, 7, 175)
def Q125 : Mrow := (5, "child", "(II)I", prog_7_method_38_code, 4, (some .int), K125, 2, 7, 175)
def Q126 : Mrow := (5, "free", "()I", prog_7_method_39_code, 4, (some .int), K126, 0, 5, 130)
def Q127 : Mrow := (5, "byteAt", "(II)I", prog_7_method_40_code, 3, (some .int), K127, 2, 0, 0)
def Q128 : Mrow := (5, "wear", "(I)I", prog_7_method_41_code, 2, (some .int), K128, 1, 0, 0)
def Q129 : Mrow := (5, "units", "()I", prog_7_method_42_code, 1, (some .int), K129, 0, 0, 0)
def Q130 : Mrow := (6, "law", "([I)Z", code, 4, (some .boolean), K130, 1, 10, 220)
def MT : List Mrow := [Q0, Q1, Q2, Q3, Q4, Q5, Q6, Q7, Q8, Q9, Q10, Q11, Q12, Q13, Q14, Q15, Q16, Q17, Q18, Q19, Q20, Q21, Q22, Q23, Q24, Q25, Q26, Q27, Q28, Q29, Q30, Q31, Q32, Q33, Q34, Q35, Q36, Q37, Q38, Q39, Q40, Q41, Q42, Q43, Q44, Q45, Q46, Q47, Q48, Q49, Q50, Q51, Q52, Q53, Q54, Q55, Q56, Q57, Q58, Q59, Q60, Q61, Q62, Q63, Q64, Q65, Q66, Q67, Q68, Q69, Q70, Q71, Q72, Q73, Q74, Q75, Q76, Q77, Q78, Q79, Q80, Q81, Q82, Q83, Q84, Q85, Q86, Q87, Q88, Q89, Q90, Q91, Q92, Q93, Q94, Q95, Q96, Q97, Q98, Q99, Q100, Q101, Q102, Q103, Q104, Q105, Q106, Q107, Q108, Q109, Q110, Q111, Q112, Q113, Q114, Q115, Q116, Q117, Q118, Q119, Q120, Q121, Q122, Q123, Q124, Q125, Q126, Q127, Q128, Q129, Q130]
def MR (m : Nat) : Mrow := MT.getD m Q130
def mCls (m : Nat) : Nat := (MR m).1
def mName (m : Nat) : String := (MR m).2.1
def mDesc (m : Nat) : String := (MR m).2.2.1
def mBytes (m : Nat) : ByteArray := (MR m).2.2.2.1
def mMax (m : Nat) : Nat := (MR m).2.2.2.2.1
def mRet (m : Nat) : Option FieldType := (MR m).2.2.2.2.2.1
def mCode (m : Nat) : List (Option Ent) := (MR m).2.2.2.2.2.2.1
def mArgs (m : Nat) : Nat := (MR m).2.2.2.2.2.2.2.1
def mFr (m : Nat) : Nat := (MR m).2.2.2.2.2.2.2.2.1
def mLo (m : Nat) : Nat := (MR m).2.2.2.2.2.2.2.2.2
def mY (m : Nat) : MethodName := ⟨cName (mCls m), mName m, mDesc m⟩
def kcs : List Int64 := [(-1), (4294967295)]
def cd (m pc : Nat) : Option Ent := ((mCode m)[pc]?).getD none
end
section
/-! ===== A small machine over numbers: locals and stack as lists, the heap as the list of the cells that the law makes (cell 0 stands for the script). 'exec' runs a method's code list; part 06 shows that the JVM does the same. ===== -/
/-- a cell: an array (type of its elements, length, contents) or an object (class number, fields) -/
abbrev AC : Type := (FieldType × Nat × (Nat → Value)) ⊕ (Nat × List Value)
abbrev AH : Type := List AC
abbrev AL : Type := List (Option Value)
abbrev ARes : Type := Option Value × AH
def inB (i : Int32) (n : Nat) : Bool := decide (0 ≤ i.toInt) && decide (i.toInt < n)
/-- a long before the stored place is lost -/
def cl1 : Option Value → Option Value
  | some (.long _) => none
  | some (.double _) => none
  | o => o
def st1 : AL → Nat → Value → Option AL
  | [], _, _ => none
  | _ :: t, 0, v => some (some v :: t)
  | o :: t, 1, v => match t with
    | [] => none
    | _ :: t' => some (cl1 o :: some v :: t')
  | o :: t, i + 2, v => (st1 t (i + 1) v).map (o :: ·)
def st2 : AL → Nat → Value → Option AL
  | [], _, _ => none
  | _ :: t, 0, v => match t with
    | [] => none
    | _ :: t' => some (some v :: none :: t')
  | o :: t, 1, v => match t with
    | _ :: _ :: t' => some (cl1 o :: some v :: none :: t')
    | _ => none
  | o :: t, i + 2, v => (st2 t (i + 1) v).map (o :: ·)
/-- a method's first locals -/
def len0 : List Value → AL
  | [] => []
  | v :: vs => if v.category = 2 then some v :: none :: len0 vs else some v :: len0 vs
def ent (m : Nat) (as : List Value) : AL := len0 as ++ List.replicate (mMax m - (len0 as).length) none
def jmp (pc : Nat) (off : Int) : Option Nat := match (pc : Int) + off with
  | .ofNat n => some n
  | _ => none
def cI (cn : Jvm.ClassFile.Cond) (x y : Int32) : Bool := match cn with
  | .eq => decide (x = y)
  | .ne => !decide (x = y)
  | .lt => decide (x < y)
  | .ge => decide (y ≤ x)
  | .gt => decide (y < x)
  | .le => decide (x ≤ y)
/-- a cell may be written but for the script -/
def hset (h : AH) (a : Nat) (e : AC) : AH := h.set a e
def fld (h : AH) (a ci k : Nat) : Option Value := match h[a]? with
  | some (.inr (c, fs)) => if c = ci then fs[k]? else none
  | _ => none
def okF (ci k : Nat) (v : Value) : Bool := fits (fty ci k) v && decide (narrow (fty ci k) v = v)
def stf (h : AH) (a ci k : Nat) (v : Value) : Option AH := match h[a]? with
  | some (.inr (c, fs)) => if c = ci ∧ k < fs.length ∧ okF ci k v = true then some (h.set a (.inr (c, fs.set k v))) else none
  | _ => none
def ald (h : AH) (a : Nat) (ty : FieldType) (i : Int32) : Option Value := match h[a]? with
  | some (.inl (t, n, f)) => if t = ty ∧ inB i n = true then some (f i.toNatClampNeg) else none
  | _ => none
def ast (h : AH) (a : Nat) (ty : FieldType) (i : Int32) (v : Value) : Option AH := match h[a]? with
  | some (.inl (t, n, f)) => if a ≠ 0 ∧ t = ty ∧ inB i n = true ∧ narrow ty v = v then some (h.set a (.inl (t, n, updV f i.toNatClampNeg v))) else none
  | _ => none
def aln (h : AH) (a : Nat) : Option Int32 := match h[a]? with
  | some (.inl (_, n, _)) => some (Int32.ofNat n)
  | _ => none
def isO (h : AH) (a ci : Nat) : Bool := match h[a]? with
  | some (.inr (c, _)) => decide (c = ci)
  | _ => false
def nSl (ci : Nat) : Nat := (vwCl.getD ci ("", fun _ => ("", "", "", false), 0)).2.2
def newO (ci : Nat) : AC := .inr (ci, (List.range (nSl ci)).map fun k => defaultValue (fty ci k))
def newA (ty : FieldType) (n : Nat) : AC := .inl (ty, n, fun _ => defaultValue ty)
abbrev ASt : Type := Nat × AL × List Value × AH
def psh (pc : Nat) (L : AL) (S : List Value) (h : AH) (v : Value) : Option ASt := some (pc, L, v :: S, h)
def ld (L : AL) (k pc : Nat) (S : List Value) (h : AH) (ok : Value → Bool) : Option ASt := match L[k]? with
  | some (some v) => if ok v = true then some (pc, L, v :: S, h) else none
  | _ => none
def isI : Value → Bool
  | .int _ => true
  | _ => false
def isJ : Value → Bool
  | .long _ => true
  | _ => false
def isR : Value → Bool
  | .ref _ => true
  | .null => true
  | _ => false
def sto (L : AL) (k pc : Nat) (S : List Value) (h : AH) (ok : Value → Bool) : Option ASt := match S with
  | v :: S' => if ok v = true then (st1 L k v).map (fun L' => (pc, L', S', h)) else none
  | _ => none
def stoJ (L : AL) (k pc : Nat) (S : List Value) (h : AH) : Option ASt := match S with
  | .long x :: S' => (st2 L k (.long x)).map (fun L' => (pc, L', S', h))
  | _ => none
def bin (f : Int32 → Int32 → Int32) (pc : Nat) (L : AL) (S : List Value) (h : AH) : Option ASt := match S with
  | .int y :: .int x :: S' => some (pc, L, .int (f x y) :: S', h)
  | _ => none
def binJ (f : Int64 → Int64 → Int64) (pc : Nat) (L : AL) (S : List Value) (h : AH) : Option ASt := match S with
  | .long y :: .long x :: S' => some (pc, L, .long (f x y) :: S', h)
  | _ => none
def shJ (f : Int64 → Int32 → Int64) (pc : Nat) (L : AL) (S : List Value) (h : AH) : Option ASt := match S with
  | .int y :: .long x :: S' => some (pc, L, .long (f x y) :: S', h)
  | _ => none
def br1 (cn : Jvm.ClassFile.Cond) (off : Int) (pc : Nat) (L : AL) (S : List Value) (h : AH) : Option ASt := match S with
  | .int x :: S' => (jmp pc off).map fun t => (if cI cn x 0 = true then t else pc + 3, L, S', h)
  | _ => none
def br2 (cn : Jvm.ClassFile.Cond) (off : Int) (pc : Nat) (L : AL) (S : List Value) (h : AH) : Option ASt := match S with
  | .int y :: .int x :: S' => (jmp pc off).map fun t => (if cI cn x y = true then t else pc + 3, L, S', h)
  | _ => none
def stp (m : Nat) (i : Instr) (aux pc : Nat) (L : AL) (S : List Value) (h : AH) : Option ASt := match i with
  | .aconst_null => some (pc + 1, L, .null :: S, h)
  | .iconst n => some (pc + 1, L, .int (Int32.ofInt n) :: S, h)
  | .bipush n => some (pc + 2, L, .int (Int8.ofInt n).toInt32 :: S, h)
  | .sipush n => some (pc + 3, L, .int (Int16.ofInt n).toInt32 :: S, h)
  | .lconst n => some (pc + 1, L, .long (Int64.ofNat (n : Nat)) :: S, h)
  | .ldc2_w _ => (kcs[aux]?).map fun v => (pc + 3, L, .long v :: S, h)
  | .iload k => ld L k (pc + 2) S h isI
  | .iload_n k => ld L k (pc + 1) S h isI
  | .lload k => ld L k (pc + 2) S h isJ
  | .lload_n k => ld L k (pc + 1) S h isJ
  | .aload k => ld L k (pc + 2) S h isR
  | .aload_n k => ld L k (pc + 1) S h isR
  | .istore k => sto L k (pc + 2) S h isI
  | .istore_n k => sto L k (pc + 1) S h isI
  | .astore k => sto L k (pc + 2) S h isR
  | .astore_n k => sto L k (pc + 1) S h isR
  | .lstore k => stoJ L k (pc + 2) S h
  | .lstore_n k => stoJ L k (pc + 1) S h
  | .iinc k n => match L[k]? with
    | some (some (.int x)) => (st1 L k (.int (x + Int32.ofInt n))).map fun L' => (pc + 3, L', S, h)
    | _ => none
  | .iadd => bin (fun x y => x + y) (pc + 1) L S h
  | .isub => bin (fun x y => x - y) (pc + 1) L S h
  | .imul => bin (fun x y => x * y) (pc + 1) L S h
  | .iand => bin (fun x y => x &&& y) (pc + 1) L S h
  | .ior => bin (fun x y => x ||| y) (pc + 1) L S h
  | .ixor => bin (fun x y => x ^^^ y) (pc + 1) L S h
  | .ishl => bin (fun x y => x <<< (y &&& 31)) (pc + 1) L S h
  | .ishr => bin (fun x y => x >>> (y &&& 31)) (pc + 1) L S h
  | .land => binJ (fun x y => x &&& y) (pc + 1) L S h
  | .lor => binJ (fun x y => x ||| y) (pc + 1) L S h
  | .lshl => shJ (fun x y => x <<< (y.toInt64 &&& 63)) (pc + 1) L S h
  | .lshr => shJ (fun x y => x >>> (y.toInt64 &&& 63)) (pc + 1) L S h
  | .lushr => shJ (fun x y => (x.toUInt64 >>> (y.toInt64.toUInt64 &&& Int64.toUInt64 63)).toInt64) (pc + 1) L S h
  | .i2l => match S with
    | .int x :: S' => some (pc + 1, L, .long x.toInt64 :: S', h)
    | _ => none
  | .l2i => match S with
    | .long x :: S' => some (pc + 1, L, .int x.toInt32 :: S', h)
    | _ => none
  | .lcmp => match S with
    | .long y :: .long x :: S' => some (pc + 1, L, .int (lg_cmp x y) :: S', h)
    | _ => none
  | .dup => match S with
    | v :: S' => if v.category = 1 then some (pc + 1, L, v :: v :: S', h) else none
    | _ => none
  | .dup2 => match S with
    | v :: w :: S' => if v.category = 1 ∧ w.category = 1 then some (pc + 1, L, v :: w :: v :: w :: S', h) else none
    | _ => none
  | .ifCond cn off => br1 cn off pc L S h
  | .if_icmp cn off => br2 cn off pc L S h
  | .ifnull off => match S with
    | .null :: S' => (jmp pc off).map fun t => (t, L, S', h)
    | .ref _ :: S' => some (pc + 3, L, S', h)
    | _ => none
  | .ifnonnull off => match S with
    | .ref _ :: S' => (jmp pc off).map fun t => (t, L, S', h)
    | .null :: S' => some (pc + 3, L, S', h)
    | _ => none
  | .goto off => (jmp pc off).map fun t => (t, L, S, h)
  | .tableswitch d lo hi offs => match S with
    | .int x :: S' => if x.toInt < lo ∨ hi < x.toInt then (jmp pc d).map fun t => (t, L, S', h) else match offs[(x.toInt - lo).toNat]? with
      | some o => (jmp pc o).map fun t => (t, L, S', h)
      | none => none
    | _ => none
  | .getfield _ => match S with
    | .ref a :: S' => (fld h a (aux / 32) (aux % 32)).map fun v => (pc + 3, L, v :: S', h)
    | _ => none
  | .putfield _ => match S with
    | v :: .ref a :: S' => (stf h a (aux / 32) (aux % 32) v).map fun h' => (pc + 3, L, S', h')
    | _ => none
  | .iaload => match S with
    | .int i :: .ref a :: S' => (ald h a .int i).map fun v => (pc + 1, L, v :: S', h)
    | _ => none
  | .baload => match S with
    | .int i :: .ref a :: S' => (ald h a .boolean i).map fun v => (pc + 1, L, v :: S', h)
    | _ => none
  | .laload => match S with
    | .int i :: .ref a :: S' => (ald h a .long i).map fun v => (pc + 1, L, v :: S', h)
    | _ => none
  | .aaload => match S with
    | .int i :: .ref a :: S' => (ald h a (.object (cName 1)) i).map fun v => (pc + 1, L, v :: S', h)
    | _ => none
  | .iastore => match S with
    | .int x :: .int i :: .ref a :: S' => (ast h a .int i (.int x)).map fun h' => (pc + 1, L, S', h')
    | _ => none
  | .bastore => match S with
    | .int x :: .int i :: .ref a :: S' => (ast h a .boolean i (.int x)).map fun h' => (pc + 1, L, S', h')
    | _ => none
  | .lastore => match S with
    | .long x :: .int i :: .ref a :: S' => (ast h a .long i (.long x)).map fun h' => (pc + 1, L, S', h')
    | _ => none
  | .aastore => match S with
    | .ref v :: .int i :: .ref a :: S' => if isO h v 1 = true then (ast h a (.object (cName 1)) i (.ref v)).map fun h' => (pc + 1, L, S', h') else none
    | _ => none
  | .arraylength => match S with
    | .ref a :: S' => (aln h a).map fun n => (pc + 1, L, .int n :: S', h)
    | _ => none
  | .newarray t => match S with
    | .int n :: S' => if 0 ≤ n.toInt ∧ n.toInt ≤ 60000 then some (pc + 2, L, .ref h.length :: S', h ++ [newA (newarray.typeOf t) n.toNatClampNeg]) else none
    | _ => none
  | .anewarray _ => match S with
    | .int n :: S' => if 0 ≤ n.toInt ∧ n.toInt ≤ 60000 ∧ aux = 1 then some (pc + 3, L, .ref h.length :: S', h ++ [newA (.object (cName 1)) n.toNatClampNeg]) else none
    | _ => none
  | .new _ => some (pc + 3, L, .ref h.length :: S, h ++ [newO aux])
  | .invokespecial _ => match S with
    | [.ref _] => if aux = 999 then some (pc + 3, L, [], h) else none
    | _ => none
  | _ => none
/-- an end: what is handed back -/
def isRet (m : Nat) (i : Instr) (S : List Value) : Option (Option Value) := match i with
  | .return_ => match S with
    | [] => if mRet m = none then some none else none
    | _ => none
  | .ireturn => match S with
    | [.int v] => match mRet m with
      | some t => if narrow t (.int v) = .int v then some (some (.int v)) else none
      | none => none
    | _ => none
  | .lreturn => match S with
    | [.long v] => if mRet m = some .long then some (some (.long v)) else none
    | _ => none
  | .areturn => match S with
    | [v] => if mRet m = some (.object (cName 1)) ∧ isR v = true then some (some v) else none
    | _ => none
  | _ => none
/-- a call: the called method, its arguments with the receiver, what stays below -/
def isCall (i : Instr) (aux : Nat) (S : List Value) (h : AH) : Option (Nat × List Value × List Value) := match i with
  | .invokevirtual _ => match S.drop (mArgs aux) with
    | .ref a :: rest => if isO h a (mCls aux) = true ∧ (rest.map fun v => v.category).sum ≤ 8 then some (aux, .ref a :: (S.take (mArgs aux)).reverse, rest) else none
    | _ => none
  | .invokespecial _ => if aux = 999 then none else match S.drop (mArgs aux) with
    | .ref a :: rest => if (rest.map fun v => v.category).sum ≤ 8 then some (aux, .ref a :: (S.take (mArgs aux)).reverse, rest) else none
    | _ => none
  | .invokestatic _ => if mArgs aux ≤ S.length ∧ ((S.drop (mArgs aux)).map fun v => v.category).sum ≤ 8 then some (aux, (S.take (mArgs aux)).reverse, S.drop (mArgs aux)) else none
  | _ => none
def exec : Nat → Nat → Nat → AL → List Value → AH → Option ARes
  | 0, _, _, _, _, _ => none
  | n + 1, m, pc, L, S, h => match cd m pc with
    | none => none
    | some (i, _, aux) => match isRet m i S with
      | some r => some (r, h)
      | none => match isCall i aux S h with
        | some (c, as, rest) => match exec n c 0 (ent c as) [] h with
          | some (r, h1) => exec n m (pc + 3) L (r.toList ++ rest) h1
          | none => none
        | none => match stp m i aux pc L S h with
          | some (pc', L', S', h') => exec n m pc' L' S' h'
          | none => none
theorem exec_mono : ∀ (n m pc : Nat) (L : AL) (S : List Value) (h : AH) (r : ARes), exec n m pc L S h = some r → exec (n + 1) m pc L S h = some r := by
  intro n
  induction n with
  | zero => intro m pc L S h r e; simp [exec] at e
  | succ n ih =>
    intro m pc L S h r e
    rw [exec] at e ⊢
    cases hc : cd m pc with
    | none => rw [hc] at e; simp at e
    | some q =>
      obtain ⟨i, len, aux⟩ := q
      rw [hc] at e
      simp only at e ⊢
      cases hr : isRet m i S with
      | some v => rw [hr] at e; simpa using e
      | none =>
        rw [hr] at e
        simp only at e ⊢
        cases hk : isCall i aux S h with
        | some q =>
          obtain ⟨c, as, rest⟩ := q
          rw [hk] at e
          simp only at e ⊢
          cases he : exec n c 0 (ent c as) [] h with
          | none => rw [he] at e; simp at e
          | some q =>
            obtain ⟨v, h1⟩ := q
            rw [he] at e
            rw [ih _ _ _ _ _ _ he]
            exact ih _ _ _ _ _ _ e
        | none =>
          rw [hk] at e
          simp only at e ⊢
          cases hs : stp m i aux pc L S h with
          | none => rw [hs] at e; simp at e
          | some q =>
            obtain ⟨pc', L', S', h'⟩ := q
            rw [hs] at e
            exact ih _ _ _ _ _ _ e
theorem exec_le {n k m pc : Nat} {L : AL} {S : List Value} {h : AH} {r : ARes} (hk : n ≤ k) (e : exec n m pc L S h = some r) : exec k m pc L S h = some r := by
  induction hk with
  | refl => exact e
  | step _ ih => exact exec_mono _ _ _ _ _ _ _ ih
theorem exec_det {n k m pc : Nat} {L : AL} {S : List Value} {h : AH} {r q : ARes} (e : exec n m pc L S h = some r) (f : exec k m pc L S h = some q) : r = q := by
  have h1 := exec_le (Nat.le_max_left n k) e
  have h2 := exec_le (Nat.le_max_right n k) f
  exact Option.some.inj (h1.symm.trans h2)
/-- what a run comes to, if it ends -/
noncomputable def Run (m pc : Nat) (L : AL) (S : List Value) (h : AH) : Option ARes := @dite (Option ARes) (∃ r : ARes, ∃ n, exec n m pc L S h = some r) (Classical.propDecidable _) (fun w => some w.choose) (fun _ => none)
theorem Run_iff {m pc : Nat} {L : AL} {S : List Value} {h : AH} {r : ARes} : Run m pc L S h = some r ↔ ∃ n, exec n m pc L S h = some r := by
  unfold Run
  constructor
  · intro e
    split at e
    · rename_i w
      have e' := Option.some.inj e
      rw [← e']
      exact w.choose_spec
    · cases e
  · intro ⟨n, e⟩
    have w : ∃ r : ARes, ∃ n, exec n m pc L S h = some r := ⟨r, n, e⟩
    rw [dif_pos w]
    obtain ⟨k, f⟩ := w.choose_spec
    rw [exec_det f e]
noncomputable def RunM (m : Nat) (as : List Value) (h : AH) : Option ARes := Run m 0 (ent m as) [] h
theorem Run_ext {m pc m' pc' : Nat} {L L' : AL} {S S' : List Value} {h h' : AH} (e : ∀ r, (∃ n, exec n m pc L S h = some r) ↔ ∃ n, exec n m' pc' L' S' h' = some r) : Run m pc L S h = Run m' pc' L' S' h' := by
  cases h1 : Run m' pc' L' S' h' with
  | some r => exact Run_iff.mpr ((e r).mpr (Run_iff.mp h1))
  | none =>
    cases h2 : Run m pc L S h with
    | none => rfl
    | some r =>
      have := Run_iff.mpr ((e r).mp (Run_iff.mp h2))
      rw [h1] at this
      cases this
/-- a plain step -/
theorem Run_stp {m pc pc' aux len : Nat} {i : Instr} {L L' : AL} {S S' : List Value} {h h' : AH} (hc : cd m pc = some (i, len, aux)) (hr : isRet m i S = none) (hk : isCall i aux S h = none) (hs : stp m i aux pc L S h = some (pc', L', S', h')) : Run m pc L S h = Run m pc' L' S' h' := by
  refine Run_ext fun r => ⟨fun ⟨n, e⟩ => ?_, fun ⟨n, e⟩ => ⟨n + 1, ?_⟩⟩
  · cases n with
    | zero => simp [exec] at e
    | succ n =>
      rw [exec, hc] at e
      simp only [hr, hk, hs] at e
      exact ⟨n, e⟩
  · rw [exec, hc]
    simp only [hr, hk, hs]
    exact e
theorem Run_ret {m pc aux len : Nat} {i : Instr} {L : AL} {S : List Value} {h : AH} {r : Option Value} (hc : cd m pc = some (i, len, aux)) (hr : isRet m i S = some r) : Run m pc L S h = some (r, h) := by
  refine Run_iff.mpr ⟨1, ?_⟩
  rw [exec, hc]
  simp only [hr]
theorem Run_call {m pc aux len c : Nat} {i : Instr} {L : AL} {S as rest : List Value} {h : AH} (hc : cd m pc = some (i, len, aux)) (hr : isRet m i S = none) (hk : isCall i aux S h = some (c, as, rest)) : Run m pc L S h = (RunM c as h).bind fun q => Run m (pc + 3) L (q.1.toList ++ rest) q.2 := by
  cases h2 : (RunM c as h).bind fun q => Run m (pc + 3) L (q.1.toList ++ rest) q.2 with
  | some r =>
    obtain ⟨⟨v, h1⟩, e1, e2⟩ := Option.bind_eq_some_iff.mp h2
    obtain ⟨n1, f1⟩ := Run_iff.mp e1
    obtain ⟨n2, f2⟩ := Run_iff.mp e2
    refine Run_iff.mpr ⟨max n1 n2 + 1, ?_⟩
    rw [exec, hc]
    simp only [hr, hk]
    rw [exec_le (Nat.le_max_left n1 n2) f1]
    exact exec_le (Nat.le_max_right n1 n2) f2
  | none =>
    cases h1 : Run m pc L S h with
    | none => rfl
    | some r =>
      obtain ⟨n, e⟩ := Run_iff.mp h1
      cases n with
      | zero => simp [exec] at e
      | succ n =>
        rw [exec, hc] at e
        simp only [hr, hk] at e
        cases he : exec n c 0 (ent c as) [] h with
        | none => rw [he] at e; simp at e
        | some q =>
          obtain ⟨v, h1⟩ := q
          rw [he] at e
          have a1 : RunM c as h = some (v, h1) := Run_iff.mpr ⟨n, he⟩
          have a2 : Run m (pc + 3) L (v.toList ++ rest) h1 = some r := Run_iff.mpr ⟨n, e⟩
          rw [a1] at h2
          simp only [Option.bind_some] at h2
          rw [a2] at h2
          cases h2
end
