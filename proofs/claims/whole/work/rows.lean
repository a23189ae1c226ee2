section
-- ===== PART A: goes FIRST, ahead of the names: the tables' words, and 'selects' of the private methods out of them =====
/-- a private method of a class that the tables say can be made, by its rows of tables_1 -/
def lw_okq (q : MethodName × Nat) : Prop := (q.1.cls ≠ "java/lang/invoke/MethodHandle" ∧ q.1.cls ≠ "java/lang/invoke/VarHandle") ∧ Cond.instantiable q.1.cls q.2 ∈ tables_1 ∧ Cond.privateMethod q.1 ∈ tables_1 ∧ Cond.instanceMethod q.1 ∈ tables_1
theorem lw_p0 : lw_okq (⟨"FlashTree", "folderAt", "(I)LFlashTree$Folder;"⟩, 7) := ⟨⟨by decide +kernel, by decide +kernel⟩, List.mem_of_getElem? (i := 8) (by decide +kernel), List.mem_of_getElem? (i := 156) (by decide +kernel), List.mem_of_getElem? (i := 157) (by decide +kernel)⟩
theorem lw_p1 : lw_okq (⟨"FlashTree$Folder", "isNewer", "(II)Z"⟩, 4) := ⟨⟨by decide +kernel, by decide +kernel⟩, List.mem_of_getElem? (i := 53) (by decide +kernel), List.mem_of_getElem? (i := 189) (by decide +kernel), List.mem_of_getElem? (i := 190) (by decide +kernel)⟩
theorem lw_p2 : lw_okq (⟨"FlashTree$Folder", "writeAnew", "(I)Z"⟩, 4) := ⟨⟨by decide +kernel, by decide +kernel⟩, List.mem_of_getElem? (i := 53) (by decide +kernel), List.mem_of_getElem? (i := 194) (by decide +kernel), List.mem_of_getElem? (i := 195) (by decide +kernel)⟩
theorem lw_p3 : lw_okq (⟨"FlashTree$Listing", "isPlace", "(I)Z"⟩, 7) := ⟨⟨by decide +kernel, by decide +kernel⟩, List.mem_of_getElem? (i := 59) (by decide +kernel), List.mem_of_getElem? (i := 210) (by decide +kernel), List.mem_of_getElem? (i := 211) (by decide +kernel)⟩
theorem lw_p4 : lw_okq (⟨"FlashTree$Flash", "spendUnit", "()Z"⟩, 5) := ⟨⟨by decide +kernel, by decide +kernel⟩, List.mem_of_getElem? (i := 16) (by decide +kernel), List.mem_of_getElem? (i := 258) (by decide +kernel), List.mem_of_getElem? (i := 259) (by decide +kernel)⟩
theorem lw_p5 : lw_okq (⟨"FlashTree$Folder", "programRecord", "(IILFlashTree$Operations;)Z"⟩, 4) := ⟨⟨by decide +kernel, by decide +kernel⟩, List.mem_of_getElem? (i := 53) (by decide +kernel), List.mem_of_getElem? (i := 266) (by decide +kernel), List.mem_of_getElem? (i := 267) (by decide +kernel)⟩
theorem lw_p6 : lw_okq (⟨"FlashTree", "loadAll", "()V"⟩, 7) := ⟨⟨by decide +kernel, by decide +kernel⟩, List.mem_of_getElem? (i := 8) (by decide +kernel), List.mem_of_getElem? (i := 283) (by decide +kernel), List.mem_of_getElem? (i := 284) (by decide +kernel)⟩
theorem lw_p7 : lw_okq (⟨"FlashTree$Folder", "readOperations", "(II)V"⟩, 4) := ⟨⟨by decide +kernel, by decide +kernel⟩, List.mem_of_getElem? (i := 53) (by decide +kernel), List.mem_of_getElem? (i := 291) (by decide +kernel), List.mem_of_getElem? (i := 292) (by decide +kernel)⟩
theorem lw_p8 : lw_okq (⟨"FlashTree$Listing", "applyOne", "(LFlashTree$Operations;I)I"⟩, 7) := ⟨⟨by decide +kernel, by decide +kernel⟩, List.mem_of_getElem? (i := 59) (by decide +kernel), List.mem_of_getElem? (i := 301) (by decide +kernel), List.mem_of_getElem? (i := 302) (by decide +kernel)⟩
theorem lw_p9 : lw_okq (⟨"FlashTree$Listing", "put", "(IIIJ)V"⟩, 7) := ⟨⟨by decide +kernel, by decide +kernel⟩, List.mem_of_getElem? (i := 59) (by decide +kernel), List.mem_of_getElem? (i := 311) (by decide +kernel), List.mem_of_getElem? (i := 312) (by decide +kernel)⟩
theorem lw_p10 : lw_okq (⟨"FlashTree$Listing", "takeOut", "(I)V"⟩, 7) := ⟨⟨by decide +kernel, by decide +kernel⟩, List.mem_of_getElem? (i := 59) (by decide +kernel), List.mem_of_getElem? (i := 323) (by decide +kernel), List.mem_of_getElem? (i := 324) (by decide +kernel)⟩
theorem lw_p11 : lw_okq (⟨"FlashTree", "reach", "(I[Z)V"⟩, 7) := ⟨⟨by decide +kernel, by decide +kernel⟩, List.mem_of_getElem? (i := 8) (by decide +kernel), List.mem_of_getElem? (i := 327) (by decide +kernel), List.mem_of_getElem? (i := 328) (by decide +kernel)⟩
theorem lw_p12 : lw_okq (⟨"FlashTree", "finishMove", "()Z"⟩, 7) := ⟨⟨by decide +kernel, by decide +kernel⟩, List.mem_of_getElem? (i := 8) (by decide +kernel), List.mem_of_getElem? (i := 332) (by decide +kernel), List.mem_of_getElem? (i := 333) (by decide +kernel)⟩
theorem lw_p13 : lw_okq (⟨"FlashTree", "folderReached", "(I)LFlashTree$Folder;"⟩, 7) := ⟨⟨by decide +kernel, by decide +kernel⟩, List.mem_of_getElem? (i := 8) (by decide +kernel), List.mem_of_getElem? (i := 336) (by decide +kernel), List.mem_of_getElem? (i := 337) (by decide +kernel)⟩
theorem lw_p14 : lw_okq (⟨"FlashTree", "finishMoveTo", "(LFlashTree$Folder;)Z"⟩, 7) := ⟨⟨by decide +kernel, by decide +kernel⟩, List.mem_of_getElem? (i := 8) (by decide +kernel), List.mem_of_getElem? (i := 341) (by decide +kernel), List.mem_of_getElem? (i := 342) (by decide +kernel)⟩
theorem lw_p15 : lw_okq (⟨"FlashTree$Folder", "logEnd", "(I)I"⟩, 4) := ⟨⟨by decide +kernel, by decide +kernel⟩, List.mem_of_getElem? (i := 53) (by decide +kernel), List.mem_of_getElem? (i := 355) (by decide +kernel), List.mem_of_getElem? (i := 356) (by decide +kernel)⟩
def lw_privs_1 : List (MethodName × Nat) := [(⟨"FlashTree", "folderAt", "(I)LFlashTree$Folder;"⟩, 7), (⟨"FlashTree$Folder", "isNewer", "(II)Z"⟩, 4), (⟨"FlashTree$Folder", "writeAnew", "(I)Z"⟩, 4), (⟨"FlashTree$Listing", "isPlace", "(I)Z"⟩, 7), (⟨"FlashTree$Flash", "spendUnit", "()Z"⟩, 5), (⟨"FlashTree$Folder", "programRecord", "(IILFlashTree$Operations;)Z"⟩, 4), (⟨"FlashTree", "loadAll", "()V"⟩, 7), (⟨"FlashTree$Folder", "readOperations", "(II)V"⟩, 4), (⟨"FlashTree$Listing", "applyOne", "(LFlashTree$Operations;I)I"⟩, 7), (⟨"FlashTree$Listing", "put", "(IIIJ)V"⟩, 7), (⟨"FlashTree$Listing", "takeOut", "(I)V"⟩, 7), (⟨"FlashTree", "reach", "(I[Z)V"⟩, 7), (⟨"FlashTree", "finishMove", "()Z"⟩, 7), (⟨"FlashTree", "folderReached", "(I)LFlashTree$Folder;"⟩, 7), (⟨"FlashTree", "finishMoveTo", "(LFlashTree$Folder;)Z"⟩, 7), (⟨"FlashTree$Folder", "logEnd", "(I)I"⟩, 4)]
theorem lw_r1 : ∀ q ∈ lw_privs_1, lw_okq q := List.forall_mem_cons.mpr ⟨lw_p0, List.forall_mem_cons.mpr ⟨lw_p1, List.forall_mem_cons.mpr ⟨lw_p2, List.forall_mem_cons.mpr ⟨lw_p3, List.forall_mem_cons.mpr ⟨lw_p4, List.forall_mem_cons.mpr ⟨lw_p5, List.forall_mem_cons.mpr ⟨lw_p6, List.forall_mem_cons.mpr ⟨lw_p7, List.forall_mem_cons.mpr ⟨lw_p8, List.forall_mem_cons.mpr ⟨lw_p9, List.forall_mem_cons.mpr ⟨lw_p10, List.forall_mem_cons.mpr ⟨lw_p11, List.forall_mem_cons.mpr ⟨lw_p12, List.forall_mem_cons.mpr ⟨lw_p13, List.forall_mem_cons.mpr ⟨lw_p14, List.forall_mem_cons.mpr ⟨lw_p15, fun _ h => absurd h List.not_mem_nil⟩⟩⟩⟩⟩⟩⟩⟩⟩⟩⟩⟩⟩⟩⟩⟩
theorem lw_p16 : lw_okq (⟨"FlashTree", "folderThere", "(I)LFlashTree$Folder;"⟩, 7) := ⟨⟨by decide +kernel, by decide +kernel⟩, List.mem_of_getElem? (i := 8) (by decide +kernel), List.mem_of_getElem? (i := 367) (by decide +kernel), List.mem_of_getElem? (i := 368) (by decide +kernel)⟩
theorem lw_p17 : lw_okq (⟨"FlashTree", "refusal", "()I"⟩, 7) := ⟨⟨by decide +kernel, by decide +kernel⟩, List.mem_of_getElem? (i := 8) (by decide +kernel), List.mem_of_getElem? (i := 371) (by decide +kernel), List.mem_of_getElem? (i := 372) (by decide +kernel)⟩
theorem lw_p18 : lw_okq (⟨"FlashTree", "lowestFreePair", "()I"⟩, 7) := ⟨⟨by decide +kernel, by decide +kernel⟩, List.mem_of_getElem? (i := 8) (by decide +kernel), List.mem_of_getElem? (i := 379) (by decide +kernel), List.mem_of_getElem? (i := 380) (by decide +kernel)⟩
theorem lw_p19 : lw_okq (⟨"FlashTree", "ended", "(ZI)I"⟩, 7) := ⟨⟨by decide +kernel, by decide +kernel⟩, List.mem_of_getElem? (i := 8) (by decide +kernel), List.mem_of_getElem? (i := 384) (by decide +kernel), List.mem_of_getElem? (i := 385) (by decide +kernel)⟩
theorem lw_p20 : lw_okq (⟨"FlashTree", "moveRefusal", "(LFlashTree$Folder;ILFlashTree$Folder;I)I"⟩, 7) := ⟨⟨by decide +kernel, by decide +kernel⟩, List.mem_of_getElem? (i := 8) (by decide +kernel), List.mem_of_getElem? (i := 406) (by decide +kernel), List.mem_of_getElem? (i := 407) (by decide +kernel)⟩
theorem lw_p21 : lw_okq (⟨"FlashTree", "isWithin", "(II)Z"⟩, 7) := ⟨⟨by decide +kernel, by decide +kernel⟩, List.mem_of_getElem? (i := 8) (by decide +kernel), List.mem_of_getElem? (i := 410) (by decide +kernel), List.mem_of_getElem? (i := 411) (by decide +kernel)⟩
theorem lw_p22 : lw_okq (⟨"FlashTree", "moveWithin", "(LFlashTree$Folder;II)Z"⟩, 7) := ⟨⟨by decide +kernel, by decide +kernel⟩, List.mem_of_getElem? (i := 8) (by decide +kernel), List.mem_of_getElem? (i := 414) (by decide +kernel), List.mem_of_getElem? (i := 415) (by decide +kernel)⟩
theorem lw_p23 : lw_okq (⟨"FlashTree", "moveAcross", "(LFlashTree$Folder;ILFlashTree$Folder;I)Z"⟩, 7) := ⟨⟨by decide +kernel, by decide +kernel⟩, List.mem_of_getElem? (i := 8) (by decide +kernel), List.mem_of_getElem? (i := 420) (by decide +kernel), List.mem_of_getElem? (i := 421) (by decide +kernel)⟩
theorem lw_p24 : lw_okq (⟨"FlashTreeModel", "beginPair", "(I)Z"⟩, 19) := ⟨⟨by decide +kernel, by decide +kernel⟩, List.mem_of_getElem? (i := 477) (by decide +kernel), List.mem_of_getElem? (i := 557) (by decide +kernel), List.mem_of_getElem? (i := 558) (by decide +kernel)⟩
theorem lw_p25 : lw_okq (⟨"FlashTreeModel", "read", "(I)I"⟩, 19) := ⟨⟨by decide +kernel, by decide +kernel⟩, List.mem_of_getElem? (i := 477) (by decide +kernel), List.mem_of_getElem? (i := 561) (by decide +kernel), List.mem_of_getElem? (i := 562) (by decide +kernel)⟩
theorem lw_p26 : lw_okq (⟨"FlashTreeModel", "active", "(I)I"⟩, 19) := ⟨⟨by decide +kernel, by decide +kernel⟩, List.mem_of_getElem? (i := 477) (by decide +kernel), List.mem_of_getElem? (i := 565) (by decide +kernel), List.mem_of_getElem? (i := 566) (by decide +kernel)⟩
theorem lw_p27 : lw_okq (⟨"FlashTreeModel", "counts", "(I)Z"⟩, 19) := ⟨⟨by decide +kernel, by decide +kernel⟩, List.mem_of_getElem? (i := 477) (by decide +kernel), List.mem_of_getElem? (i := 569) (by decide +kernel), List.mem_of_getElem? (i := 570) (by decide +kernel)⟩
theorem lw_p28 : lw_okq (⟨"FlashTreeModel", "apply", "([III)V"⟩, 19) := ⟨⟨by decide +kernel, by decide +kernel⟩, List.mem_of_getElem? (i := 477) (by decide +kernel), List.mem_of_getElem? (i := 573) (by decide +kernel), List.mem_of_getElem? (i := 574) (by decide +kernel)⟩
theorem lw_p29 : lw_okq (⟨"FlashTreeModel", "put", "(IIIJ)V"⟩, 19) := ⟨⟨by decide +kernel, by decide +kernel⟩, List.mem_of_getElem? (i := 477) (by decide +kernel), List.mem_of_getElem? (i := 577) (by decide +kernel), List.mem_of_getElem? (i := 578) (by decide +kernel)⟩
theorem lw_p30 : lw_okq (⟨"FlashTreeModel", "at", "(I)I"⟩, 19) := ⟨⟨by decide +kernel, by decide +kernel⟩, List.mem_of_getElem? (i := 477) (by decide +kernel), List.mem_of_getElem? (i := 581) (by decide +kernel), List.mem_of_getElem? (i := 582) (by decide +kernel)⟩
theorem lw_p31 : lw_okq (⟨"FlashTreeModel", "take", "(I)V"⟩, 19) := ⟨⟨by decide +kernel, by decide +kernel⟩, List.mem_of_getElem? (i := 477) (by decide +kernel), List.mem_of_getElem? (i := 585) (by decide +kernel), List.mem_of_getElem? (i := 586) (by decide +kernel)⟩
def lw_privs_2 : List (MethodName × Nat) := [(⟨"FlashTree", "folderThere", "(I)LFlashTree$Folder;"⟩, 7), (⟨"FlashTree", "refusal", "()I"⟩, 7), (⟨"FlashTree", "lowestFreePair", "()I"⟩, 7), (⟨"FlashTree", "ended", "(ZI)I"⟩, 7), (⟨"FlashTree", "moveRefusal", "(LFlashTree$Folder;ILFlashTree$Folder;I)I"⟩, 7), (⟨"FlashTree", "isWithin", "(II)Z"⟩, 7), (⟨"FlashTree", "moveWithin", "(LFlashTree$Folder;II)Z"⟩, 7), (⟨"FlashTree", "moveAcross", "(LFlashTree$Folder;ILFlashTree$Folder;I)Z"⟩, 7), (⟨"FlashTreeModel", "beginPair", "(I)Z"⟩, 19), (⟨"FlashTreeModel", "read", "(I)I"⟩, 19), (⟨"FlashTreeModel", "active", "(I)I"⟩, 19), (⟨"FlashTreeModel", "counts", "(I)Z"⟩, 19), (⟨"FlashTreeModel", "apply", "([III)V"⟩, 19), (⟨"FlashTreeModel", "put", "(IIIJ)V"⟩, 19), (⟨"FlashTreeModel", "at", "(I)I"⟩, 19), (⟨"FlashTreeModel", "take", "(I)V"⟩, 19)]
theorem lw_r2 : ∀ q ∈ lw_privs_2, lw_okq q := List.forall_mem_cons.mpr ⟨lw_p16, List.forall_mem_cons.mpr ⟨lw_p17, List.forall_mem_cons.mpr ⟨lw_p18, List.forall_mem_cons.mpr ⟨lw_p19, List.forall_mem_cons.mpr ⟨lw_p20, List.forall_mem_cons.mpr ⟨lw_p21, List.forall_mem_cons.mpr ⟨lw_p22, List.forall_mem_cons.mpr ⟨lw_p23, List.forall_mem_cons.mpr ⟨lw_p24, List.forall_mem_cons.mpr ⟨lw_p25, List.forall_mem_cons.mpr ⟨lw_p26, List.forall_mem_cons.mpr ⟨lw_p27, List.forall_mem_cons.mpr ⟨lw_p28, List.forall_mem_cons.mpr ⟨lw_p29, List.forall_mem_cons.mpr ⟨lw_p30, List.forall_mem_cons.mpr ⟨lw_p31, fun _ h => absurd h List.not_mem_nil⟩⟩⟩⟩⟩⟩⟩⟩⟩⟩⟩⟩⟩⟩⟩⟩
theorem lw_p32 : lw_okq (⟨"FlashTreeModel", "erase", "(I)Z"⟩, 19) := ⟨⟨by decide +kernel, by decide +kernel⟩, List.mem_of_getElem? (i := 477) (by decide +kernel), List.mem_of_getElem? (i := 589) (by decide +kernel), List.mem_of_getElem? (i := 590) (by decide +kernel)⟩
theorem lw_p33 : lw_okq (⟨"FlashTreeModel", "spend", "()Z"⟩, 19) := ⟨⟨by decide +kernel, by decide +kernel⟩, List.mem_of_getElem? (i := 477) (by decide +kernel), List.mem_of_getElem? (i := 593) (by decide +kernel), List.mem_of_getElem? (i := 594) (by decide +kernel)⟩
theorem lw_p34 : lw_okq (⟨"FlashTreeModel", "program", "(II)Z"⟩, 19) := ⟨⟨by decide +kernel, by decide +kernel⟩, List.mem_of_getElem? (i := 477) (by decide +kernel), List.mem_of_getElem? (i := 597) (by decide +kernel), List.mem_of_getElem? (i := 598) (by decide +kernel)⟩
theorem lw_p35 : lw_okq (⟨"FlashTreeModel", "record", "(II[II)Z"⟩, 19) := ⟨⟨by decide +kernel, by decide +kernel⟩, List.mem_of_getElem? (i := 477) (by decide +kernel), List.mem_of_getElem? (i := 601) (by decide +kernel), List.mem_of_getElem? (i := 602) (by decide +kernel)⟩
theorem lw_p36 : lw_okq (⟨"FlashTreeModel", "writeAnew", "(I)Z"⟩, 19) := ⟨⟨by decide +kernel, by decide +kernel⟩, List.mem_of_getElem? (i := 477) (by decide +kernel), List.mem_of_getElem? (i := 605) (by decide +kernel), List.mem_of_getElem? (i := 606) (by decide +kernel)⟩
theorem lw_p37 : lw_okq (⟨"FlashTreeModel", "add", "(I)V"⟩, 19) := ⟨⟨by decide +kernel, by decide +kernel⟩, List.mem_of_getElem? (i := 477) (by decide +kernel), List.mem_of_getElem? (i := 609) (by decide +kernel), List.mem_of_getElem? (i := 610) (by decide +kernel)⟩
theorem lw_p38 : lw_okq (⟨"FlashTreeModel", "done", "(ZI)I"⟩, 19) := ⟨⟨by decide +kernel, by decide +kernel⟩, List.mem_of_getElem? (i := 477) (by decide +kernel), List.mem_of_getElem? (i := 613) (by decide +kernel), List.mem_of_getElem? (i := 614) (by decide +kernel)⟩
theorem lw_p39 : lw_okq (⟨"FlashTreeModel", "from", "(I)I"⟩, 19) := ⟨⟨by decide +kernel, by decide +kernel⟩, List.mem_of_getElem? (i := 477) (by decide +kernel), List.mem_of_getElem? (i := 621) (by decide +kernel), List.mem_of_getElem? (i := 622) (by decide +kernel)⟩
theorem lw_p40 : lw_okq (⟨"FlashTreeModel", "say", "(I)V"⟩, 19) := ⟨⟨by decide +kernel, by decide +kernel⟩, List.mem_of_getElem? (i := 477) (by decide +kernel), List.mem_of_getElem? (i := 625) (by decide +kernel), List.mem_of_getElem? (i := 626) (by decide +kernel)⟩
theorem lw_p41 : lw_okq (⟨"FlashTreeModel", "commit", "(I)Z"⟩, 19) := ⟨⟨by decide +kernel, by decide +kernel⟩, List.mem_of_getElem? (i := 477) (by decide +kernel), List.mem_of_getElem? (i := 629) (by decide +kernel), List.mem_of_getElem? (i := 630) (by decide +kernel)⟩
theorem lw_p42 : lw_okq (⟨"FlashTreeModel", "ready", "()I"⟩, 19) := ⟨⟨by decide +kernel, by decide +kernel⟩, List.mem_of_getElem? (i := 477) (by decide +kernel), List.mem_of_getElem? (i := 637) (by decide +kernel), List.mem_of_getElem? (i := 638) (by decide +kernel)⟩
theorem lw_p43 : lw_okq (⟨"FlashTreeModel", "there", "(I)Z"⟩, 19) := ⟨⟨by decide +kernel, by decide +kernel⟩, List.mem_of_getElem? (i := 477) (by decide +kernel), List.mem_of_getElem? (i := 641) (by decide +kernel), List.mem_of_getElem? (i := 642) (by decide +kernel)⟩
theorem lw_p44 : lw_okq (⟨"FlashTreeModel", "sayEntry", "(IIIJ)V"⟩, 19) := ⟨⟨by decide +kernel, by decide +kernel⟩, List.mem_of_getElem? (i := 477) (by decide +kernel), List.mem_of_getElem? (i := 660) (by decide +kernel), List.mem_of_getElem? (i := 661) (by decide +kernel)⟩
theorem lw_p45 : lw_okq (⟨"FlashTreeModel", "find", "(II)I"⟩, 19) := ⟨⟨by decide +kernel, by decide +kernel⟩, List.mem_of_getElem? (i := 477) (by decide +kernel), List.mem_of_getElem? (i := 672) (by decide +kernel), List.mem_of_getElem? (i := 673) (by decide +kernel)⟩
def lw_privs_3 : List (MethodName × Nat) := [(⟨"FlashTreeModel", "erase", "(I)Z"⟩, 19), (⟨"FlashTreeModel", "spend", "()Z"⟩, 19), (⟨"FlashTreeModel", "program", "(II)Z"⟩, 19), (⟨"FlashTreeModel", "record", "(II[II)Z"⟩, 19), (⟨"FlashTreeModel", "writeAnew", "(I)Z"⟩, 19), (⟨"FlashTreeModel", "add", "(I)V"⟩, 19), (⟨"FlashTreeModel", "done", "(ZI)I"⟩, 19), (⟨"FlashTreeModel", "from", "(I)I"⟩, 19), (⟨"FlashTreeModel", "say", "(I)V"⟩, 19), (⟨"FlashTreeModel", "commit", "(I)Z"⟩, 19), (⟨"FlashTreeModel", "ready", "()I"⟩, 19), (⟨"FlashTreeModel", "there", "(I)Z"⟩, 19), (⟨"FlashTreeModel", "sayEntry", "(IIIJ)V"⟩, 19), (⟨"FlashTreeModel", "find", "(II)I"⟩, 19)]
theorem lw_r3 : ∀ q ∈ lw_privs_3, lw_okq q := List.forall_mem_cons.mpr ⟨lw_p32, List.forall_mem_cons.mpr ⟨lw_p33, List.forall_mem_cons.mpr ⟨lw_p34, List.forall_mem_cons.mpr ⟨lw_p35, List.forall_mem_cons.mpr ⟨lw_p36, List.forall_mem_cons.mpr ⟨lw_p37, List.forall_mem_cons.mpr ⟨lw_p38, List.forall_mem_cons.mpr ⟨lw_p39, List.forall_mem_cons.mpr ⟨lw_p40, List.forall_mem_cons.mpr ⟨lw_p41, List.forall_mem_cons.mpr ⟨lw_p42, List.forall_mem_cons.mpr ⟨lw_p43, List.forall_mem_cons.mpr ⟨lw_p44, List.forall_mem_cons.mpr ⟨lw_p45, fun _ h => absurd h List.not_mem_nil⟩⟩⟩⟩⟩⟩⟩⟩⟩⟩⟩⟩⟩⟩
def lw_privs : List (MethodName × Nat) := lw_privs_1 ++ (lw_privs_2 ++ (lw_privs_3))
def lw_tbl : List Cond := k2_sels lw_privs ++ tables_1
theorem lw_privs_ok : ∀ q ∈ lw_privs, lw_okq q := by
  show ∀ q ∈ lw_privs_1 ++ (lw_privs_2 ++ (lw_privs_3)), lw_okq q
  exact List.forall_mem_append.mpr ⟨lw_r1, List.forall_mem_append.mpr ⟨lw_r2, lw_r3⟩⟩
end
section
def RX0 : String := "FlashTree$Flash"
def TX0 : u_T := fun k => match k with
  | 0 => ("FlashTree$Flash", "cells", "[I", true)
  | 1 => ("FlashTree$Flash", "erasures", "[I", true)
  | 2 => ("FlashTree$Flash", "done", "I", false)
  | 3 => ("FlashTree$Flash", "left", "I", false)
  | _ => ("FlashTree$Flash", "dark", "Z", false)
def tyX0 : Nat → FieldType := fun k => match k with
  | 0 => .array .int
  | 1 => .array .int
  | 2 => .int
  | 3 => .int
  | _ => .boolean
theorem nmX0 : ∀ a, a < 5 → ∀ b, b < 5 → a ≠ b → (TX0 a).2.1 ≠ (TX0 b).2.1 := by decide +kernel
theorem tyX0_ok : ∀ k, k < 5 → parseFieldDescriptor (TX0 k).2.2.1 = some (tyX0 k) := by decide +kernel
def RX1 : String := "FlashTree$Folder"
def TX1 : u_T := fun k => match k with
  | 0 => ("FlashTree$Folder", "pair", "I", true)
  | 1 => ("FlashTree$Folder", "flash", "LFlashTree$Flash;", true)
  | 2 => ("FlashTree$Folder", "scratch", "LFlashTree$Operations;", true)
  | _ => ("FlashTree$Folder", "list", "LFlashTree$Listing;", true)
def tyX1 : Nat → FieldType := fun k => match k with
  | 0 => .int
  | 1 => .object "FlashTree$Flash"
  | 2 => .object "FlashTree$Operations"
  | _ => .object "FlashTree$Listing"
theorem nmX1 : ∀ a, a < 4 → ∀ b, b < 4 → a ≠ b → (TX1 a).2.1 ≠ (TX1 b).2.1 := by decide +kernel
theorem tyX1_ok : ∀ k, k < 4 → parseFieldDescriptor (TX1 k).2.2.1 = some (tyX1 k) := by decide +kernel
def RX2 : String := "FlashTree$Listing"
def TX2 : u_T := fun k => match k with
  | 0 => ("FlashTree$Listing", "names", "[I", true)
  | 1 => ("FlashTree$Listing", "pairs", "[I", true)
  | 2 => ("FlashTree$Listing", "lengths", "[I", true)
  | 3 => ("FlashTree$Listing", "contents", "[J", true)
  | 4 => ("FlashTree$Listing", "count", "I", false)
  | 5 => ("FlashTree$Listing", "markPair", "I", false)
  | _ => ("FlashTree$Listing", "markName", "I", false)
def tyX2 : Nat → FieldType := fun k => match k with
  | 0 => .array .int
  | 1 => .array .int
  | 2 => .array .int
  | 3 => .array .long
  | 4 => .int
  | 5 => .int
  | _ => .int
theorem nmX2 : ∀ a, a < 7 → ∀ b, b < 7 → a ≠ b → (TX2 a).2.1 ≠ (TX2 b).2.1 := by decide +kernel
theorem tyX2_ok : ∀ k, k < 7 → parseFieldDescriptor (TX2 k).2.2.1 = some (tyX2 k) := by decide +kernel
def RX3 : String := "FlashTree$Operations"
def TX3 : u_T := fun k => match k with
  | 0 => ("FlashTree$Operations", "bytes", "[I", true)
  | _ => ("FlashTree$Operations", "length", "I", false)
def tyX3 : Nat → FieldType := fun k => match k with
  | 0 => .array .int
  | _ => .int
theorem nmX3 : ∀ a, a < 2 → ∀ b, b < 2 → a ≠ b → (TX3 a).2.1 ≠ (TX3 b).2.1 := by decide +kernel
theorem tyX3_ok : ∀ k, k < 2 → parseFieldDescriptor (TX3 k).2.2.1 = some (tyX3 k) := by decide +kernel
def RX4 : String := "FlashTree"
def TX4 : u_T := fun k => match k with
  | 0 => ("FlashTree", "flash", "LFlashTree$Flash;", true)
  | 1 => ("FlashTree", "folders", "[LFlashTree$Folder;", true)
  | 2 => ("FlashTree", "there", "[Z", true)
  | 3 => ("FlashTree", "below", "[Z", true)
  | 4 => ("FlashTree", "queue", "[I", true)
  | 5 => ("FlashTree", "change", "LFlashTree$Operations;", true)
  | _ => ("FlashTree", "mounted", "Z", false)
def tyX4 : Nat → FieldType := fun k => match k with
  | 0 => .object "FlashTree$Flash"
  | 1 => .array (.object "FlashTree$Folder")
  | 2 => .array .boolean
  | 3 => .array .boolean
  | 4 => .array .int
  | 5 => .object "FlashTree$Operations"
  | _ => .boolean
theorem nmX4 : ∀ a, a < 7 → ∀ b, b < 7 → a ≠ b → (TX4 a).2.1 ≠ (TX4 b).2.1 := by decide +kernel
theorem tyX4_ok : ∀ k, k < 7 → parseFieldDescriptor (TX4 k).2.2.1 = some (tyX4 k) := by decide +kernel
def RX5 : String := "FlashTreeModel"
def TX5 : u_T := fun k => match k with
  | 0 => ("FlashTreeModel", "flash", "[I", true)
  | 1 => ("FlashTreeModel", "wears", "[I", true)
  | 2 => ("FlashTreeModel", "off", "Z", false)
  | 3 => ("FlashTreeModel", "mounted", "Z", false)
  | 4 => ("FlashTreeModel", "cutSet", "Z", false)
  | 5 => ("FlashTreeModel", "left", "I", false)
  | 6 => ("FlashTreeModel", "units", "I", false)
  | 7 => ("FlashTreeModel", "names", "[I", true)
  | 8 => ("FlashTreeModel", "kinds", "[I", true)
  | 9 => ("FlashTreeModel", "args", "[I", true)
  | 10 => ("FlashTreeModel", "bytes", "[J", true)
  | 11 => ("FlashTreeModel", "count", "I", false)
  | 12 => ("FlashTreeModel", "markPair", "I", false)
  | 13 => ("FlashTreeModel", "markName", "I", false)
  | 14 => ("FlashTreeModel", "end", "I", false)
  | 15 => ("FlashTreeModel", "ops", "[I", true)
  | 16 => ("FlashTreeModel", "length", "I", false)
  | 17 => ("FlashTreeModel", "anew", "[I", true)
  | _ => ("FlashTreeModel", "much", "I", false)
def tyX5 : Nat → FieldType := fun k => match k with
  | 0 => .array .int
  | 1 => .array .int
  | 2 => .boolean
  | 3 => .boolean
  | 4 => .boolean
  | 5 => .int
  | 6 => .int
  | 7 => .array .int
  | 8 => .array .int
  | 9 => .array .int
  | 10 => .array .long
  | 11 => .int
  | 12 => .int
  | 13 => .int
  | 14 => .int
  | 15 => .array .int
  | 16 => .int
  | 17 => .array .int
  | _ => .int
theorem nmX5 : ∀ a, a < 19 → ∀ b, b < 19 → a ≠ b → (TX5 a).2.1 ≠ (TX5 b).2.1 := by decide +kernel
theorem tyX5_ok : ∀ k, k < 19 → parseFieldDescriptor (TX5 k).2.2.1 = some (tyX5 k) := by decide +kernel
abbrev vwCl : List vw_C := [(RX0, TX0, 5), (RX1, TX1, 4), (RX2, TX2, 7), (RX3, TX3, 2), (RX4, TX4, 7), (RX5, TX5, 19)]
/-- the type of slot k of class ci -/
def ftyS : List (Nat → FieldType) := [tyX0, tyX1, tyX2, tyX3, tyX4, tyX5]
def fty (ci k : Nat) : FieldType := (ftyS.getD ci (fun _ => .int)) k
def nSl (ci : Nat) : Nat := (vwCl.getD ci ("", fun _ => ("", "", "", false), 0)).2.2
def cNames : List String := ["FlashTree$Flash", "FlashTree$Folder", "FlashTree$Listing", "FlashTree$Operations", "FlashTree", "FlashTreeModel", "FlashTreeLaw"]
def cName (i : Nat) : String := cNames.getD i ""
end
section
/-- an instruction, its length, what it links: a field by 32 * class + slot, a method by its number (999: Object.<init>), a class, a constant by its place -/
abbrev Ent : Type := Instr × Nat × Nat
/-- FlashTree$Flash.<init> ()V -/
def K0 : List (Option Ent) := [some (.aload_n 0, 1, 0), some (.invokespecial 3, 3, 999), none, none, some (.aload_n 0, 1, 0), some (.sipush 1024, 3, 0), none, none, some (.newarray .int, 2, 0), none, some (.putfield 9, 3, 0), none, none, some (.aload_n 0, 1, 0), some (.bipush 16, 2, 0), none, some (.newarray .int, 2, 0), none, some (.putfield 15, 3, 1), none, none, some (.aload_n 0, 1, 0), some (.iconst 0, 1, 0), some (.putfield 18, 3, 2), none, none, some (.aload_n 0, 1, 0), some (.iconst (-1), 1, 0), some (.putfield 22, 3, 3), none, none, some (.aload_n 0, 1, 0), some (.iconst 0, 1, 0), some (.putfield 25, 3, 4), none, none, some (.iconst 0, 1, 0), some (.istore_n 1, 1, 0), some (.iload_n 1, 1, 0), some (.aload_n 0, 1, 0), some (.getfield 9, 3, 0), none, none, some (.arraylength, 1, 0), some (.if_icmp .ge 18, 3, 0), none, none, some (.aload_n 0, 1, 0), some (.getfield 9, 3, 0), none, none, some (.iload_n 1, 1, 0), some (.sipush 255, 3, 0), none, none, some (.iastore, 1, 0), some (.iinc 1 1, 3, 0), none, none, some (.goto (-21), 3, 0), none, none, some (.return_, 1, 0)]
/-- FlashTree$Flash.setCut (I)V -/
def K1 : List (Option Ent) := [some (.aload_n 0, 1, 0), some (.iload_n 1, 1, 0), some (.ifCond .ge 7, 3, 0), none, none, some (.iconst (-1), 1, 0), some (.goto 4, 3, 0), none, none, some (.iload_n 1, 1, 0), some (.putfield 22, 3, 3), none, none, some (.return_, 1, 0)]
/-- FlashTree$Flash.powerUp ()V -/
def K2 : List (Option Ent) := [some (.aload_n 0, 1, 0), some (.iconst 0, 1, 0), some (.putfield 25, 3, 4), none, none, some (.return_, 1, 0)]
/-- FlashTree$Flash.isDark ()Z -/
def K3 : List (Option Ent) := [some (.aload_n 0, 1, 0), some (.getfield 25, 3, 4), none, none, some (.ireturn, 1, 0)]
/-- FlashTree$Flash.unitsDone ()I -/
def K4 : List (Option Ent) := [some (.aload_n 0, 1, 0), some (.getfield 18, 3, 2), none, none, some (.ireturn, 1, 0)]
/-- FlashTree$Flash.erasuresOf (I)I -/
def K5 : List (Option Ent) := [some (.iload_n 1, 1, 0), some (.invokestatic 29, 3, 11), none, none, some (.ifCond .eq 12, 3, 0), none, none, some (.aload_n 0, 1, 0), some (.getfield 15, 3, 1), none, none, some (.iload_n 1, 1, 0), some (.iaload, 1, 0), some (.goto 4, 3, 0), none, none, some (.iconst (-1), 1, 0), some (.ireturn, 1, 0)]
/-- FlashTree$Flash.peek (II)I -/
def K6 : List (Option Ent) := [some (.iload_n 1, 1, 0), some (.invokestatic 29, 3, 11), none, none, some (.ifCond .eq 24, 3, 0), none, none, some (.iload_n 2, 1, 0), some (.invokestatic 33, 3, 12), none, none, some (.ifCond .eq 17, 3, 0), none, none, some (.aload_n 0, 1, 0), some (.getfield 9, 3, 0), none, none, some (.iload_n 1, 1, 0), some (.bipush 64, 2, 0), none, some (.imul, 1, 0), some (.iload_n 2, 1, 0), some (.iadd, 1, 0), some (.iaload, 1, 0), some (.goto 4, 3, 0), none, none, some (.iconst (-1), 1, 0), some (.ireturn, 1, 0)]
/-- FlashTree$Flash.program (III)Z -/
def K7 : List (Option Ent) := [some (.iload_n 1, 1, 0), some (.invokestatic 29, 3, 11), none, none, some (.ifCond .eq 17, 3, 0), none, none, some (.iload_n 2, 1, 0), some (.invokestatic 33, 3, 12), none, none, some (.ifCond .eq 10, 3, 0), none, none, some (.aload_n 0, 1, 0), some (.invokevirtual 36, 3, 10), none, none, some (.ifCond .ne 5, 3, 0), none, none, some (.iconst 0, 1, 0), some (.ireturn, 1, 0), some (.aload_n 0, 1, 0), some (.getfield 9, 3, 0), none, none, some (.iload_n 1, 1, 0), some (.bipush 64, 2, 0), none, some (.imul, 1, 0), some (.iload_n 2, 1, 0), some (.iadd, 1, 0), some (.iload_n 3, 1, 0), some (.sipush 255, 3, 0), none, none, some (.iand, 1, 0), some (.iastore, 1, 0), some (.iconst 1, 1, 0), some (.ireturn, 1, 0)]
/-- FlashTree$Flash.erase (I)Z -/
def K8 : List (Option Ent) := [some (.iload_n 1, 1, 0), some (.invokestatic 29, 3, 11), none, none, some (.ifCond .eq 10, 3, 0), none, none, some (.aload_n 0, 1, 0), some (.invokevirtual 36, 3, 10), none, none, some (.ifCond .ne 5, 3, 0), none, none, some (.iconst 0, 1, 0), some (.ireturn, 1, 0), some (.iconst 0, 1, 0), some (.istore_n 2, 1, 0), some (.iload_n 2, 1, 0), some (.bipush 64, 2, 0), none, some (.if_icmp .ge 23, 3, 0), none, none, some (.aload_n 0, 1, 0), some (.getfield 9, 3, 0), none, none, some (.iload_n 1, 1, 0), some (.bipush 64, 2, 0), none, some (.imul, 1, 0), some (.iload_n 2, 1, 0), some (.iadd, 1, 0), some (.sipush 255, 3, 0), none, none, some (.iastore, 1, 0), some (.iinc 2 1, 3, 0), none, none, some (.goto (-23), 3, 0), none, none, some (.aload_n 0, 1, 0), some (.getfield 15, 3, 1), none, none, some (.iload_n 1, 1, 0), some (.dup2, 1, 0), some (.iaload, 1, 0), some (.iconst 1, 1, 0), some (.iadd, 1, 0), some (.iastore, 1, 0), some (.iconst 1, 1, 0), some (.ireturn, 1, 0)]
/-- FlashTree$Flash.behindRecord (II)I -/
def K9 : List (Option Ent) := [some (.aload_n 0, 1, 0), some (.iload_n 1, 1, 0), some (.iload_n 2, 1, 0), some (.invokevirtual 40, 3, 6), none, none, some (.istore_n 3, 1, 0), some (.iload_n 3, 1, 0), some (.iconst (-1), 1, 0), some (.if_icmp .ne 5, 3, 0), none, none, some (.iconst (-1), 1, 0), some (.ireturn, 1, 0), some (.iload_n 2, 1, 0), some (.iconst 1, 1, 0), some (.iadd, 1, 0), some (.iload_n 3, 1, 0), some (.iadd, 1, 0), some (.istore 4, 2, 0), none, some (.aload_n 0, 1, 0), some (.iload_n 1, 1, 0), some (.iload 4, 2, 0), none, some (.invokevirtual 40, 3, 6), none, none, some (.ifCond .ne 10, 3, 0), none, none, some (.iload 4, 2, 0), none, some (.iconst 1, 1, 0), some (.iadd, 1, 0), some (.goto 4, 3, 0), none, none, some (.iconst (-1), 1, 0), some (.ireturn, 1, 0)]
/-- FlashTree$Flash.spendUnit ()Z -/
def K10 : List (Option Ent) := [some (.aload_n 0, 1, 0), some (.getfield 22, 3, 3), none, none, some (.ifCond .ne 13, 3, 0), none, none, some (.aload_n 0, 1, 0), some (.iconst (-1), 1, 0), some (.putfield 22, 3, 3), none, none, some (.aload_n 0, 1, 0), some (.iconst 1, 1, 0), some (.putfield 25, 3, 4), none, none, some (.aload_n 0, 1, 0), some (.getfield 25, 3, 4), none, none, some (.ifCond .eq 5, 3, 0), none, none, some (.iconst 0, 1, 0), some (.ireturn, 1, 0), some (.aload_n 0, 1, 0), some (.getfield 22, 3, 3), none, none, some (.ifCond .le 13, 3, 0), none, none, some (.aload_n 0, 1, 0), some (.dup, 1, 0), some (.getfield 22, 3, 3), none, none, some (.iconst 1, 1, 0), some (.isub, 1, 0), some (.putfield 22, 3, 3), none, none, some (.aload_n 0, 1, 0), some (.dup, 1, 0), some (.getfield 18, 3, 2), none, none, some (.iconst 1, 1, 0), some (.iadd, 1, 0), some (.putfield 18, 3, 2), none, none, some (.iconst 1, 1, 0), some (.ireturn, 1, 0)]
/-- FlashTree$Flash.isBlock (I)Z -/
def K11 : List (Option Ent) := [some (.iload_n 0, 1, 0), some (.ifCond .lt 13, 3, 0), none, none, some (.iload_n 0, 1, 0), some (.bipush 16, 2, 0), none, some (.if_icmp .ge 7, 3, 0), none, none, some (.iconst 1, 1, 0), some (.goto 4, 3, 0), none, none, some (.iconst 0, 1, 0), some (.ireturn, 1, 0)]
/-- FlashTree$Flash.isOffset (I)Z -/
def K12 : List (Option Ent) := [some (.iload_n 0, 1, 0), some (.ifCond .lt 13, 3, 0), none, none, some (.iload_n 0, 1, 0), some (.bipush 64, 2, 0), none, some (.if_icmp .ge 7, 3, 0), none, none, some (.iconst 1, 1, 0), some (.goto 4, 3, 0), none, none, some (.iconst 0, 1, 0), some (.ireturn, 1, 0)]
/-- FlashTree$Folder.<init> (ILFlashTree$Flash;LFlashTree$Operations;)V -/
def K13 : List (Option Ent) := [some (.aload_n 0, 1, 0), some (.invokespecial 3, 3, 999), none, none, some (.aload_n 0, 1, 0), some (.iload_n 1, 1, 0), some (.putfield 9, 3, 32), none, none, some (.aload_n 0, 1, 0), some (.aload_n 2, 1, 0), some (.putfield 15, 3, 33), none, none, some (.aload_n 0, 1, 0), some (.aload_n 3, 1, 0), some (.putfield 19, 3, 34), none, none, some (.aload_n 0, 1, 0), some (.new 23, 3, 2), none, none, some (.dup, 1, 0), some (.invokespecial 25, 3, 23), none, none, some (.putfield 26, 3, 35), none, none, some (.return_, 1, 0)]
/-- FlashTree$Folder.activeBlock ()I -/
def K14 : List (Option Ent) := [some (.iconst 2, 1, 0), some (.aload_n 0, 1, 0), some (.getfield 9, 3, 32), none, none, some (.imul, 1, 0), some (.istore_n 1, 1, 0), some (.iload_n 1, 1, 0), some (.iconst 1, 1, 0), some (.iadd, 1, 0), some (.istore_n 2, 1, 0), some (.aload_n 0, 1, 0), some (.getfield 15, 3, 33), none, none, some (.iload_n 1, 1, 0), some (.iconst 1, 1, 0), some (.invokevirtual 30, 3, 9), none, none, some (.iconst (-1), 1, 0), some (.if_icmp .eq 7, 3, 0), none, none, some (.iconst 1, 1, 0), some (.goto 4, 3, 0), none, none, some (.iconst 0, 1, 0), some (.istore_n 3, 1, 0), some (.aload_n 0, 1, 0), some (.getfield 15, 3, 33), none, none, some (.iload_n 2, 1, 0), some (.iconst 1, 1, 0), some (.invokevirtual 30, 3, 9), none, none, some (.iconst (-1), 1, 0), some (.if_icmp .eq 7, 3, 0), none, none, some (.iconst 1, 1, 0), some (.goto 4, 3, 0), none, none, some (.iconst 0, 1, 0), some (.istore 4, 2, 0), none, some (.iload_n 3, 1, 0), some (.ifCond .eq 23, 3, 0), none, none, some (.iload 4, 2, 0), none, some (.ifCond .eq 18, 3, 0), none, none, some (.aload_n 0, 1, 0), some (.iload_n 2, 1, 0), some (.iload_n 1, 1, 0), some (.invokevirtual 36, 3, 18), none, none, some (.ifCond .eq 7, 3, 0), none, none, some (.iload_n 2, 1, 0), some (.goto 4, 3, 0), none, none, some (.iload_n 1, 1, 0), some (.ireturn, 1, 0), some (.iload_n 3, 1, 0), some (.ifCond .eq 5, 3, 0), none, none, some (.iload_n 1, 1, 0), some (.ireturn, 1, 0), some (.iload 4, 2, 0), none, some (.ifCond .eq 7, 3, 0), none, none, some (.iload_n 2, 1, 0), some (.goto 4, 3, 0), none, none, some (.iconst (-1), 1, 0), some (.ireturn, 1, 0)]
/-- FlashTree$Folder.load ()V -/
def K15 : List (Option Ent) := [some (.aload_n 0, 1, 0), some (.getfield 26, 3, 35), none, none, some (.invokevirtual 40, 3, 24), none, none, some (.aload_n 0, 1, 0), some (.invokevirtual 43, 3, 14), none, none, some (.istore_n 1, 1, 0), some (.iconst 1, 1, 0), some (.istore_n 2, 1, 0), some (.iconst 0, 1, 0), some (.istore_n 3, 1, 0), some (.iload_n 3, 1, 0), some (.bipush 64, 2, 0), none, some (.if_icmp .ge 47, 3, 0), none, none, some (.aload_n 0, 1, 0), some (.getfield 15, 3, 33), none, none, some (.iload_n 1, 1, 0), some (.iload_n 2, 1, 0), some (.invokevirtual 30, 3, 9), none, none, some (.istore 4, 2, 0), none, some (.iload 4, 2, 0), none, some (.iconst (-1), 1, 0), some (.if_icmp .ne 4, 3, 0), none, none, some (.return_, 1, 0), some (.aload_n 0, 1, 0), some (.iload_n 1, 1, 0), some (.iload_n 2, 1, 0), some (.invokevirtual 47, 3, 20), none, none, some (.aload_n 0, 1, 0), some (.getfield 26, 3, 35), none, none, some (.aload_n 0, 1, 0), some (.getfield 19, 3, 34), none, none, some (.invokevirtual 51, 3, 37), none, none, some (.iload 4, 2, 0), none, some (.istore_n 2, 1, 0), some (.iinc 3 1, 3, 0), none, none, some (.goto (-47), 3, 0), none, none, some (.return_, 1, 0)]
/-- FlashTree$Folder.begin ()Z -/
def K16 : List (Option Ent) := [some (.aload_n 0, 1, 0), some (.getfield 26, 3, 35), none, none, some (.invokevirtual 40, 3, 24), none, none, some (.aload_n 0, 1, 0), some (.aload_n 0, 1, 0), some (.invokevirtual 43, 3, 14), none, none, some (.invokevirtual 55, 3, 21), none, none, some (.ireturn, 1, 0)]
/-- FlashTree$Folder.commit (LFlashTree$Operations;)Z -/
def K17 : List (Option Ent) := [some (.aload_n 0, 1, 0), some (.getfield 26, 3, 35), none, none, some (.aload_n 1, 1, 0), some (.invokevirtual 51, 3, 37), none, none, some (.aload_n 0, 1, 0), some (.invokevirtual 43, 3, 14), none, none, some (.istore_n 2, 1, 0), some (.aload_n 0, 1, 0), some (.iload_n 2, 1, 0), some (.invokevirtual 59, 3, 19), none, none, some (.istore_n 3, 1, 0), some (.iload_n 3, 1, 0), some (.aload_n 1, 1, 0), some (.invokevirtual 63, 3, 44), none, none, some (.iadd, 1, 0), some (.iconst 2, 1, 0), some (.iadd, 1, 0), some (.bipush 64, 2, 0), none, some (.if_icmp .gt 26, 3, 0), none, none, some (.aload_n 0, 1, 0), some (.getfield 15, 3, 33), none, none, some (.iload_n 2, 1, 0), some (.iload_n 3, 1, 0), some (.invokevirtual 68, 3, 6), none, none, some (.sipush 255, 3, 0), none, none, some (.if_icmp .ne 11, 3, 0), none, none, some (.aload_n 0, 1, 0), some (.iload_n 2, 1, 0), some (.iload_n 3, 1, 0), some (.aload_n 1, 1, 0), some (.invokevirtual 71, 3, 22), none, none, some (.ireturn, 1, 0), some (.aload_n 0, 1, 0), some (.iload_n 2, 1, 0), some (.invokevirtual 55, 3, 21), none, none, some (.ireturn, 1, 0)]
/-- FlashTree$Folder.isNewer (II)Z -/
def K18 : List (Option Ent) := [some (.aload_n 0, 1, 0), some (.getfield 15, 3, 33), none, none, some (.iload_n 1, 1, 0), some (.iconst 0, 1, 0), some (.invokevirtual 68, 3, 6), none, none, some (.aload_n 0, 1, 0), some (.getfield 15, 3, 33), none, none, some (.iload_n 2, 1, 0), some (.iconst 0, 1, 0), some (.invokevirtual 68, 3, 6), none, none, some (.isub, 1, 0), some (.sipush 255, 3, 0), none, none, some (.iand, 1, 0), some (.istore_n 3, 1, 0), some (.iload_n 3, 1, 0), some (.iconst 1, 1, 0), some (.if_icmp .lt 13, 3, 0), none, none, some (.iload_n 3, 1, 0), some (.bipush 127, 2, 0), none, some (.if_icmp .gt 7, 3, 0), none, none, some (.iconst 1, 1, 0), some (.goto 4, 3, 0), none, none, some (.iconst 0, 1, 0), some (.ireturn, 1, 0)]
/-- FlashTree$Folder.logEnd (I)I -/
def K19 : List (Option Ent) := [some (.iconst 1, 1, 0), some (.istore_n 2, 1, 0), some (.iconst 0, 1, 0), some (.istore_n 3, 1, 0), some (.iload_n 3, 1, 0), some (.bipush 64, 2, 0), none, some (.if_icmp .ge 31, 3, 0), none, none, some (.aload_n 0, 1, 0), some (.getfield 15, 3, 33), none, none, some (.iload_n 1, 1, 0), some (.iload_n 2, 1, 0), some (.invokevirtual 30, 3, 9), none, none, some (.istore 4, 2, 0), none, some (.iload 4, 2, 0), none, some (.iconst (-1), 1, 0), some (.if_icmp .ne 5, 3, 0), none, none, some (.iload_n 2, 1, 0), some (.ireturn, 1, 0), some (.iload 4, 2, 0), none, some (.istore_n 2, 1, 0), some (.iinc 3 1, 3, 0), none, none, some (.goto (-31), 3, 0), none, none, some (.iload_n 2, 1, 0), some (.ireturn, 1, 0)]
/-- FlashTree$Folder.readOperations (II)V -/
def K20 : List (Option Ent) := [some (.aload_n 0, 1, 0), some (.getfield 15, 3, 33), none, none, some (.iload_n 1, 1, 0), some (.iload_n 2, 1, 0), some (.invokevirtual 68, 3, 6), none, none, some (.istore_n 3, 1, 0), some (.aload_n 0, 1, 0), some (.getfield 19, 3, 34), none, none, some (.invokevirtual 75, 3, 43), none, none, some (.iconst 0, 1, 0), some (.istore 4, 2, 0), none, some (.iload 4, 2, 0), none, some (.iload_n 3, 1, 0), some (.if_icmp .ge 37, 3, 0), none, none, some (.iload 4, 2, 0), none, some (.bipush 64, 2, 0), none, some (.if_icmp .ge 30, 3, 0), none, none, some (.aload_n 0, 1, 0), some (.getfield 19, 3, 34), none, none, some (.aload_n 0, 1, 0), some (.getfield 15, 3, 33), none, none, some (.iload_n 1, 1, 0), some (.iload_n 2, 1, 0), some (.iconst 1, 1, 0), some (.iadd, 1, 0), some (.iload 4, 2, 0), none, some (.iadd, 1, 0), some (.invokevirtual 68, 3, 6), none, none, some (.invokevirtual 76, 3, 46), none, none, some (.iinc 4 1, 3, 0), none, none, some (.goto (-37), 3, 0), none, none, some (.return_, 1, 0)]
/-- FlashTree$Folder.writeAnew (I)Z -/
def K21 : List (Option Ent) := [some (.iload_n 1, 1, 0), some (.iconst (-1), 1, 0), some (.if_icmp .ne 12, 3, 0), none, none, some (.iconst 2, 1, 0), some (.aload_n 0, 1, 0), some (.getfield 9, 3, 32), none, none, some (.imul, 1, 0), some (.goto 6, 3, 0), none, none, some (.iload_n 1, 1, 0), some (.iconst 1, 1, 0), some (.ixor, 1, 0), some (.istore_n 2, 1, 0), some (.iload_n 1, 1, 0), some (.iconst (-1), 1, 0), some (.if_icmp .ne 7, 3, 0), none, none, some (.iconst 0, 1, 0), some (.goto 18, 3, 0), none, none, some (.aload_n 0, 1, 0), some (.getfield 15, 3, 33), none, none, some (.iload_n 1, 1, 0), some (.iconst 0, 1, 0), some (.invokevirtual 68, 3, 6), none, none, some (.iconst 1, 1, 0), some (.iadd, 1, 0), some (.sipush 255, 3, 0), none, none, some (.iand, 1, 0), some (.istore_n 3, 1, 0), some (.aload_n 0, 1, 0), some (.getfield 19, 3, 34), none, none, some (.invokevirtual 75, 3, 43), none, none, some (.aload_n 0, 1, 0), some (.getfield 26, 3, 35), none, none, some (.aload_n 0, 1, 0), some (.getfield 19, 3, 34), none, none, some (.invokevirtual 80, 3, 36), none, none, some (.aload_n 0, 1, 0), some (.getfield 15, 3, 33), none, none, some (.iload_n 2, 1, 0), some (.invokevirtual 83, 3, 8), none, none, some (.ifCond .eq 33, 3, 0), none, none, some (.aload_n 0, 1, 0), some (.getfield 15, 3, 33), none, none, some (.iload_n 2, 1, 0), some (.iconst 0, 1, 0), some (.iload_n 3, 1, 0), some (.invokevirtual 86, 3, 7), none, none, some (.ifCond .eq 20, 3, 0), none, none, some (.aload_n 0, 1, 0), some (.iload_n 2, 1, 0), some (.iconst 1, 1, 0), some (.aload_n 0, 1, 0), some (.getfield 19, 3, 34), none, none, some (.invokevirtual 71, 3, 22), none, none, some (.ifCond .eq 7, 3, 0), none, none, some (.iconst 1, 1, 0), some (.goto 4, 3, 0), none, none, some (.iconst 0, 1, 0), some (.ireturn, 1, 0)]
/-- FlashTree$Folder.programRecord (IILFlashTree$Operations;)Z -/
def K22 : List (Option Ent) := [some (.aload_n 0, 1, 0), some (.getfield 15, 3, 33), none, none, some (.iload_n 1, 1, 0), some (.iload_n 2, 1, 0), some (.aload_n 3, 1, 0), some (.invokevirtual 63, 3, 44), none, none, some (.invokevirtual 86, 3, 7), none, none, some (.ifCond .ne 5, 3, 0), none, none, some (.iconst 0, 1, 0), some (.ireturn, 1, 0), some (.iconst 0, 1, 0), some (.istore 4, 2, 0), none, some (.iload 4, 2, 0), none, some (.aload_n 3, 1, 0), some (.invokevirtual 63, 3, 44), none, none, some (.if_icmp .ge 34, 3, 0), none, none, some (.aload_n 0, 1, 0), some (.getfield 15, 3, 33), none, none, some (.iload_n 1, 1, 0), some (.iload_n 2, 1, 0), some (.iconst 1, 1, 0), some (.iadd, 1, 0), some (.iload 4, 2, 0), none, some (.iadd, 1, 0), some (.aload_n 3, 1, 0), some (.iload 4, 2, 0), none, some (.invokevirtual 90, 3, 45), none, none, some (.invokevirtual 86, 3, 7), none, none, some (.ifCond .ne 5, 3, 0), none, none, some (.iconst 0, 1, 0), some (.ireturn, 1, 0), some (.iinc 4 1, 3, 0), none, none, some (.goto (-37), 3, 0), none, none, some (.aload_n 0, 1, 0), some (.getfield 15, 3, 33), none, none, some (.iload_n 1, 1, 0), some (.iload_n 2, 1, 0), some (.iconst 1, 1, 0), some (.iadd, 1, 0), some (.aload_n 3, 1, 0), some (.invokevirtual 63, 3, 44), none, none, some (.iadd, 1, 0), some (.iconst 0, 1, 0), some (.invokevirtual 86, 3, 7), none, none, some (.ireturn, 1, 0)]
/-- FlashTree$Listing.<init> ()V -/
def K23 : List (Option Ent) := [some (.aload_n 0, 1, 0), some (.invokespecial 3, 3, 999), none, none, some (.aload_n 0, 1, 0), some (.iconst 4, 1, 0), some (.newarray .int, 2, 0), none, some (.putfield 9, 3, 64), none, none, some (.aload_n 0, 1, 0), some (.iconst 4, 1, 0), some (.newarray .int, 2, 0), none, some (.putfield 15, 3, 65), none, none, some (.aload_n 0, 1, 0), some (.iconst 4, 1, 0), some (.newarray .int, 2, 0), none, some (.putfield 18, 3, 66), none, none, some (.aload_n 0, 1, 0), some (.iconst 4, 1, 0), some (.newarray .long, 2, 0), none, some (.putfield 21, 3, 67), none, none, some (.aload_n 0, 1, 0), some (.iconst 0, 1, 0), some (.putfield 25, 3, 68), none, none, some (.aload_n 0, 1, 0), some (.iconst (-1), 1, 0), some (.putfield 29, 3, 69), none, none, some (.aload_n 0, 1, 0), some (.iconst 0, 1, 0), some (.putfield 32, 3, 70), none, none, some (.return_, 1, 0)]
/-- FlashTree$Listing.clear ()V -/
def K24 : List (Option Ent) := [some (.aload_n 0, 1, 0), some (.iconst 0, 1, 0), some (.putfield 25, 3, 68), none, none, some (.aload_n 0, 1, 0), some (.iconst (-1), 1, 0), some (.putfield 29, 3, 69), none, none, some (.return_, 1, 0)]
/-- FlashTree$Listing.isEmpty ()Z -/
def K25 : List (Option Ent) := [some (.aload_n 0, 1, 0), some (.getfield 25, 3, 68), none, none, some (.ifCond .ne 7, 3, 0), none, none, some (.iconst 1, 1, 0), some (.goto 4, 3, 0), none, none, some (.iconst 0, 1, 0), some (.ireturn, 1, 0)]
/-- FlashTree$Listing.isFull ()Z -/
def K26 : List (Option Ent) := [some (.aload_n 0, 1, 0), some (.getfield 25, 3, 68), none, none, some (.iconst 4, 1, 0), some (.if_icmp .lt 7, 3, 0), none, none, some (.iconst 1, 1, 0), some (.goto 4, 3, 0), none, none, some (.iconst 0, 1, 0), some (.ireturn, 1, 0)]
/-- FlashTree$Listing.hasMark ()Z -/
def K27 : List (Option Ent) := [some (.aload_n 0, 1, 0), some (.getfield 29, 3, 69), none, none, some (.iconst (-1), 1, 0), some (.if_icmp .eq 7, 3, 0), none, none, some (.iconst 1, 1, 0), some (.goto 4, 3, 0), none, none, some (.iconst 0, 1, 0), some (.ireturn, 1, 0)]
/-- FlashTree$Listing.find (I)I -/
def K28 : List (Option Ent) := [some (.iconst 0, 1, 0), some (.istore_n 2, 1, 0), some (.iload_n 2, 1, 0), some (.aload_n 0, 1, 0), some (.getfield 25, 3, 68), none, none, some (.if_icmp .ge 26, 3, 0), none, none, some (.iload_n 2, 1, 0), some (.iconst 4, 1, 0), some (.if_icmp .ge 21, 3, 0), none, none, some (.aload_n 0, 1, 0), some (.getfield 9, 3, 64), none, none, some (.iload_n 2, 1, 0), some (.iaload, 1, 0), some (.iload_n 1, 1, 0), some (.if_icmp .ne 5, 3, 0), none, none, some (.iload_n 2, 1, 0), some (.ireturn, 1, 0), some (.iinc 2 1, 3, 0), none, none, some (.goto (-28), 3, 0), none, none, some (.iconst (-1), 1, 0), some (.ireturn, 1, 0)]
/-- FlashTree$Listing.findFile (I)I -/
def K29 : List (Option Ent) := [some (.aload_n 0, 1, 0), some (.iload_n 1, 1, 0), some (.invokevirtual 35, 3, 28), none, none, some (.istore_n 2, 1, 0), some (.aload_n 0, 1, 0), some (.iload_n 2, 1, 0), some (.invokevirtual 39, 3, 30), none, none, some (.ifCond .eq 7, 3, 0), none, none, some (.iconst (-1), 1, 0), some (.goto 4, 3, 0), none, none, some (.iload_n 2, 1, 0), some (.ireturn, 1, 0)]
/-- FlashTree$Listing.isFolder (I)Z -/
def K30 : List (Option Ent) := [some (.aload_n 0, 1, 0), some (.iload_n 1, 1, 0), some (.invokevirtual 43, 3, 32), none, none, some (.iconst (-1), 1, 0), some (.if_icmp .eq 7, 3, 0), none, none, some (.iconst 1, 1, 0), some (.goto 4, 3, 0), none, none, some (.iconst 0, 1, 0), some (.ireturn, 1, 0)]
/-- FlashTree$Listing.nameAt (I)I -/
def K31 : List (Option Ent) := [some (.aload_n 0, 1, 0), some (.iload_n 1, 1, 0), some (.invokevirtual 46, 3, 41), none, none, some (.ifCond .eq 12, 3, 0), none, none, some (.aload_n 0, 1, 0), some (.getfield 9, 3, 64), none, none, some (.iload_n 1, 1, 0), some (.iaload, 1, 0), some (.goto 4, 3, 0), none, none, some (.iconst 0, 1, 0), some (.ireturn, 1, 0)]
/-- FlashTree$Listing.pairAt (I)I -/
def K32 : List (Option Ent) := [some (.aload_n 0, 1, 0), some (.iload_n 1, 1, 0), some (.invokevirtual 46, 3, 41), none, none, some (.ifCond .eq 12, 3, 0), none, none, some (.aload_n 0, 1, 0), some (.getfield 15, 3, 65), none, none, some (.iload_n 1, 1, 0), some (.iaload, 1, 0), some (.goto 4, 3, 0), none, none, some (.iconst (-1), 1, 0), some (.ireturn, 1, 0)]
/-- FlashTree$Listing.lengthAt (I)I -/
def K33 : List (Option Ent) := [some (.aload_n 0, 1, 0), some (.iload_n 1, 1, 0), some (.invokevirtual 46, 3, 41), none, none, some (.ifCond .eq 12, 3, 0), none, none, some (.aload_n 0, 1, 0), some (.getfield 18, 3, 66), none, none, some (.iload_n 1, 1, 0), some (.iaload, 1, 0), some (.goto 4, 3, 0), none, none, some (.iconst 0, 1, 0), some (.ireturn, 1, 0)]
/-- FlashTree$Listing.contentAt (I)J -/
def K34 : List (Option Ent) := [some (.aload_n 0, 1, 0), some (.iload_n 1, 1, 0), some (.invokevirtual 46, 3, 41), none, none, some (.ifCond .eq 12, 3, 0), none, none, some (.aload_n 0, 1, 0), some (.getfield 21, 3, 67), none, none, some (.iload_n 1, 1, 0), some (.laload, 1, 0), some (.goto 4, 3, 0), none, none, some (.lconst 0, 1, 0), some (.lreturn, 1, 0)]
/-- FlashTree$Listing.addEntryTo (LFlashTree$Operations;II)V -/
def K35 : List (Option Ent) := [some (.aload_n 0, 1, 0), some (.iload_n 2, 1, 0), some (.invokevirtual 39, 3, 30), none, none, some (.ifCond .eq 16, 3, 0), none, none, some (.aload_n 1, 1, 0), some (.iload_n 3, 1, 0), some (.aload_n 0, 1, 0), some (.iload_n 2, 1, 0), some (.invokevirtual 43, 3, 32), none, none, some (.invokevirtual 49, 3, 48), none, none, some (.goto 18, 3, 0), none, none, some (.aload_n 1, 1, 0), some (.iload_n 3, 1, 0), some (.aload_n 0, 1, 0), some (.iload_n 2, 1, 0), some (.invokevirtual 55, 3, 33), none, none, some (.aload_n 0, 1, 0), some (.iload_n 2, 1, 0), some (.invokevirtual 58, 3, 34), none, none, some (.invokevirtual 62, 3, 47), none, none, some (.return_, 1, 0)]
/-- FlashTree$Listing.addAllTo (LFlashTree$Operations;)V -/
def K36 : List (Option Ent) := [some (.iconst 0, 1, 0), some (.istore_n 2, 1, 0), some (.iload_n 2, 1, 0), some (.aload_n 0, 1, 0), some (.getfield 25, 3, 68), none, none, some (.if_icmp .ge 25, 3, 0), none, none, some (.iload_n 2, 1, 0), some (.iconst 4, 1, 0), some (.if_icmp .ge 20, 3, 0), none, none, some (.aload_n 0, 1, 0), some (.aload_n 1, 1, 0), some (.iload_n 2, 1, 0), some (.aload_n 0, 1, 0), some (.iload_n 2, 1, 0), some (.invokevirtual 66, 3, 31), none, none, some (.invokevirtual 69, 3, 35), none, none, some (.iinc 2 1, 3, 0), none, none, some (.goto (-27), 3, 0), none, none, some (.aload_n 0, 1, 0), some (.invokevirtual 73, 3, 27), none, none, some (.ifCond .eq 15, 3, 0), none, none, some (.aload_n 1, 1, 0), some (.aload_n 0, 1, 0), some (.getfield 29, 3, 69), none, none, some (.aload_n 0, 1, 0), some (.getfield 32, 3, 70), none, none, some (.invokevirtual 77, 3, 50), none, none, some (.return_, 1, 0)]
/-- FlashTree$Listing.apply (LFlashTree$Operations;)V -/
def K37 : List (Option Ent) := [some (.iconst 0, 1, 0), some (.istore_n 2, 1, 0), some (.iconst 0, 1, 0), some (.istore_n 3, 1, 0), some (.iload_n 3, 1, 0), some (.bipush 64, 2, 0), none, some (.if_icmp .ge 26, 3, 0), none, none, some (.iload_n 2, 1, 0), some (.aload_n 1, 1, 0), some (.invokevirtual 80, 3, 44), none, none, some (.if_icmp .ge 18, 3, 0), none, none, some (.iload_n 2, 1, 0), some (.aload_n 0, 1, 0), some (.aload_n 1, 1, 0), some (.iload_n 2, 1, 0), some (.invokevirtual 84, 3, 38), none, none, some (.iadd, 1, 0), some (.istore_n 2, 1, 0), some (.iinc 3 1, 3, 0), none, none, some (.goto (-26), 3, 0), none, none, some (.return_, 1, 0)]
/-- FlashTree$Listing.applyOne (LFlashTree$Operations;I)I -/
def K38 : List (Option Ent) := [some (.aload_n 1, 1, 0), some (.iload_n 2, 1, 0), some (.iconst 1, 1, 0), some (.iadd, 1, 0), some (.invokevirtual 88, 3, 45), none, none, some (.istore_n 3, 1, 0), some (.aload_n 1, 1, 0), some (.iload_n 2, 1, 0), some (.iconst 2, 1, 0), some (.iadd, 1, 0), some (.invokevirtual 88, 3, 45), none, none, some (.istore 4, 2, 0), none, some (.aload_n 1, 1, 0), some (.iload_n 2, 1, 0), some (.invokevirtual 88, 3, 45), none, none, some (.tableswitch 98 1 5 #[34, 56, 67, 78, 91], 34, 0), none, none, none, none, none, none, none, none, none, none, none, none, none, none, none, none, none, none, none, none, none, none, none, none, none, none, none, none, none, none, none, none, none, some (.aload_n 0, 1, 0), some (.iload_n 3, 1, 0), some (.iconst (-1), 1, 0), some (.iload 4, 2, 0), none, some (.aload_n 1, 1, 0), some (.iload_n 2, 1, 0), some (.iconst 3, 1, 0), some (.iadd, 1, 0), some (.iload 4, 2, 0), none, some (.invokevirtual 91, 3, 52), none, none, some (.invokevirtual 94, 3, 39), none, none, some (.iconst 3, 1, 0), some (.iload 4, 2, 0), none, some (.iadd, 1, 0), some (.ireturn, 1, 0), some (.aload_n 0, 1, 0), some (.iload_n 3, 1, 0), some (.iload 4, 2, 0), none, some (.iconst 0, 1, 0), some (.lconst 0, 1, 0), some (.invokevirtual 94, 3, 39), none, none, some (.iconst 3, 1, 0), some (.ireturn, 1, 0), some (.aload_n 0, 1, 0), some (.aload_n 0, 1, 0), some (.iload_n 3, 1, 0), some (.invokevirtual 35, 3, 28), none, none, some (.invokevirtual 98, 3, 40), none, none, some (.iconst 2, 1, 0), some (.ireturn, 1, 0), some (.aload_n 0, 1, 0), some (.iload_n 3, 1, 0), some (.putfield 29, 3, 69), none, none, some (.aload_n 0, 1, 0), some (.iload 4, 2, 0), none, some (.putfield 32, 3, 70), none, none, some (.iconst 3, 1, 0), some (.ireturn, 1, 0), some (.aload_n 0, 1, 0), some (.iconst (-1), 1, 0), some (.putfield 29, 3, 69), none, none, some (.iconst 1, 1, 0), some (.ireturn, 1, 0), some (.iconst 1, 1, 0), some (.ireturn, 1, 0)]
/-- FlashTree$Listing.put (IIIJ)V -/
def K39 : List (Option Ent) := [some (.aload_n 0, 1, 0), some (.iload_n 1, 1, 0), some (.invokevirtual 35, 3, 28), none, none, some (.istore 6, 2, 0), none, some (.iload 6, 2, 0), none, some (.iconst (-1), 1, 0), some (.if_icmp .ne 27, 3, 0), none, none, some (.aload_n 0, 1, 0), some (.invokevirtual 102, 3, 26), none, none, some (.ifCond .eq 4, 3, 0), none, none, some (.return_, 1, 0), some (.aload_n 0, 1, 0), some (.getfield 25, 3, 68), none, none, some (.istore 6, 2, 0), none, some (.aload_n 0, 1, 0), some (.dup, 1, 0), some (.getfield 25, 3, 68), none, none, some (.iconst 1, 1, 0), some (.iadd, 1, 0), some (.putfield 25, 3, 68), none, none, some (.aload_n 0, 1, 0), some (.iload 6, 2, 0), none, some (.invokevirtual 46, 3, 41), none, none, some (.ifCond .eq 36, 3, 0), none, none, some (.aload_n 0, 1, 0), some (.getfield 9, 3, 64), none, none, some (.iload 6, 2, 0), none, some (.iload_n 1, 1, 0), some (.iastore, 1, 0), some (.aload_n 0, 1, 0), some (.getfield 15, 3, 65), none, none, some (.iload 6, 2, 0), none, some (.iload_n 2, 1, 0), some (.iastore, 1, 0), some (.aload_n 0, 1, 0), some (.getfield 18, 3, 66), none, none, some (.iload 6, 2, 0), none, some (.iload_n 3, 1, 0), some (.iastore, 1, 0), some (.aload_n 0, 1, 0), some (.getfield 21, 3, 67), none, none, some (.iload 6, 2, 0), none, some (.lload 4, 2, 0), none, some (.lastore, 1, 0), some (.return_, 1, 0)]
/-- FlashTree$Listing.takeOut (I)V -/
def K40 : List (Option Ent) := [some (.aload_n 0, 1, 0), some (.iload_n 1, 1, 0), some (.invokevirtual 46, 3, 41), none, none, some (.ifCond .ne 4, 3, 0), none, none, some (.return_, 1, 0), some (.iload_n 1, 1, 0), some (.istore_n 2, 1, 0), some (.iload_n 2, 1, 0), some (.iconst 1, 1, 0), some (.iadd, 1, 0), some (.aload_n 0, 1, 0), some (.getfield 25, 3, 68), none, none, some (.if_icmp .ge 72, 3, 0), none, none, some (.iload_n 2, 1, 0), some (.iconst 1, 1, 0), some (.iadd, 1, 0), some (.iconst 4, 1, 0), some (.if_icmp .ge 65, 3, 0), none, none, some (.aload_n 0, 1, 0), some (.getfield 9, 3, 64), none, none, some (.iload_n 2, 1, 0), some (.aload_n 0, 1, 0), some (.getfield 9, 3, 64), none, none, some (.iload_n 2, 1, 0), some (.iconst 1, 1, 0), some (.iadd, 1, 0), some (.iaload, 1, 0), some (.iastore, 1, 0), some (.aload_n 0, 1, 0), some (.getfield 15, 3, 65), none, none, some (.iload_n 2, 1, 0), some (.aload_n 0, 1, 0), some (.getfield 15, 3, 65), none, none, some (.iload_n 2, 1, 0), some (.iconst 1, 1, 0), some (.iadd, 1, 0), some (.iaload, 1, 0), some (.iastore, 1, 0), some (.aload_n 0, 1, 0), some (.getfield 18, 3, 66), none, none, some (.iload_n 2, 1, 0), some (.aload_n 0, 1, 0), some (.getfield 18, 3, 66), none, none, some (.iload_n 2, 1, 0), some (.iconst 1, 1, 0), some (.iadd, 1, 0), some (.iaload, 1, 0), some (.iastore, 1, 0), some (.aload_n 0, 1, 0), some (.getfield 21, 3, 67), none, none, some (.iload_n 2, 1, 0), some (.aload_n 0, 1, 0), some (.getfield 21, 3, 67), none, none, some (.iload_n 2, 1, 0), some (.iconst 1, 1, 0), some (.iadd, 1, 0), some (.laload, 1, 0), some (.lastore, 1, 0), some (.iinc 2 1, 3, 0), none, none, some (.goto (-76), 3, 0), none, none, some (.aload_n 0, 1, 0), some (.dup, 1, 0), some (.getfield 25, 3, 68), none, none, some (.iconst 1, 1, 0), some (.isub, 1, 0), some (.putfield 25, 3, 68), none, none, some (.return_, 1, 0)]
/-- FlashTree$Listing.isPlace (I)Z -/
def K41 : List (Option Ent) := [some (.iload_n 1, 1, 0), some (.ifCond .lt 20, 3, 0), none, none, some (.iload_n 1, 1, 0), some (.aload_n 0, 1, 0), some (.getfield 25, 3, 68), none, none, some (.if_icmp .ge 12, 3, 0), none, none, some (.iload_n 1, 1, 0), some (.iconst 4, 1, 0), some (.if_icmp .ge 7, 3, 0), none, none, some (.iconst 1, 1, 0), some (.goto 4, 3, 0), none, none, some (.iconst 0, 1, 0), some (.ireturn, 1, 0)]
/-- FlashTree$Operations.<init> ()V -/
def K42 : List (Option Ent) := [some (.aload_n 0, 1, 0), some (.invokespecial 3, 3, 999), none, none, some (.aload_n 0, 1, 0), some (.bipush 64, 2, 0), none, some (.newarray .int, 2, 0), none, some (.putfield 9, 3, 96), none, none, some (.aload_n 0, 1, 0), some (.iconst 0, 1, 0), some (.putfield 15, 3, 97), none, none, some (.return_, 1, 0)]
/-- FlashTree$Operations.clear ()V -/
def K43 : List (Option Ent) := [some (.aload_n 0, 1, 0), some (.iconst 0, 1, 0), some (.putfield 15, 3, 97), none, none, some (.return_, 1, 0)]
/-- FlashTree$Operations.length ()I -/
def K44 : List (Option Ent) := [some (.aload_n 0, 1, 0), some (.getfield 15, 3, 97), none, none, some (.ireturn, 1, 0)]
/-- FlashTree$Operations.at (I)I -/
def K45 : List (Option Ent) := [some (.iload_n 1, 1, 0), some (.ifCond .lt 29, 3, 0), none, none, some (.iload_n 1, 1, 0), some (.aload_n 0, 1, 0), some (.getfield 15, 3, 97), none, none, some (.if_icmp .ge 21, 3, 0), none, none, some (.iload_n 1, 1, 0), some (.aload_n 0, 1, 0), some (.getfield 9, 3, 96), none, none, some (.arraylength, 1, 0), some (.if_icmp .ge 12, 3, 0), none, none, some (.aload_n 0, 1, 0), some (.getfield 9, 3, 96), none, none, some (.iload_n 1, 1, 0), some (.iaload, 1, 0), some (.goto 4, 3, 0), none, none, some (.iconst 0, 1, 0), some (.ireturn, 1, 0)]
/-- FlashTree$Operations.add (I)V -/
def K46 : List (Option Ent) := [some (.aload_n 0, 1, 0), some (.getfield 15, 3, 97), none, none, some (.ifCond .lt 35, 3, 0), none, none, some (.aload_n 0, 1, 0), some (.getfield 15, 3, 97), none, none, some (.aload_n 0, 1, 0), some (.getfield 9, 3, 96), none, none, some (.arraylength, 1, 0), some (.if_icmp .ge 23, 3, 0), none, none, some (.aload_n 0, 1, 0), some (.getfield 9, 3, 96), none, none, some (.aload_n 0, 1, 0), some (.getfield 15, 3, 97), none, none, some (.iload_n 1, 1, 0), some (.iastore, 1, 0), some (.aload_n 0, 1, 0), some (.dup, 1, 0), some (.getfield 15, 3, 97), none, none, some (.iconst 1, 1, 0), some (.iadd, 1, 0), some (.putfield 15, 3, 97), none, none, some (.return_, 1, 0)]
/-- FlashTree$Operations.addFile (IIJ)V -/
def K47 : List (Option Ent) := [some (.aload_n 0, 1, 0), some (.iconst 1, 1, 0), some (.invokevirtual 19, 3, 46), none, none, some (.aload_n 0, 1, 0), some (.iload_n 1, 1, 0), some (.invokevirtual 19, 3, 46), none, none, some (.aload_n 0, 1, 0), some (.iload_n 2, 1, 0), some (.invokevirtual 19, 3, 46), none, none, some (.iconst 0, 1, 0), some (.istore 5, 2, 0), none, some (.iload 5, 2, 0), none, some (.iload_n 2, 1, 0), some (.if_icmp .ge 32, 3, 0), none, none, some (.iload 5, 2, 0), none, some (.bipush 6, 2, 0), none, some (.if_icmp .ge 25, 3, 0), none, none, some (.aload_n 0, 1, 0), some (.lload_n 3, 1, 0), some (.bipush 8, 2, 0), none, some (.iload 5, 2, 0), none, some (.imul, 1, 0), some (.lushr, 1, 0), some (.l2i, 1, 0), some (.sipush 255, 3, 0), none, none, some (.iand, 1, 0), some (.invokevirtual 19, 3, 46), none, none, some (.iinc 5 1, 3, 0), none, none, some (.goto (-32), 3, 0), none, none, some (.return_, 1, 0)]
/-- FlashTree$Operations.addFolder (II)V -/
def K48 : List (Option Ent) := [some (.aload_n 0, 1, 0), some (.iconst 2, 1, 0), some (.invokevirtual 19, 3, 46), none, none, some (.aload_n 0, 1, 0), some (.iload_n 1, 1, 0), some (.invokevirtual 19, 3, 46), none, none, some (.aload_n 0, 1, 0), some (.iload_n 2, 1, 0), some (.invokevirtual 19, 3, 46), none, none, some (.return_, 1, 0)]
/-- FlashTree$Operations.addGone (I)V -/
def K49 : List (Option Ent) := [some (.aload_n 0, 1, 0), some (.iconst 3, 1, 0), some (.invokevirtual 19, 3, 46), none, none, some (.aload_n 0, 1, 0), some (.iload_n 1, 1, 0), some (.invokevirtual 19, 3, 46), none, none, some (.return_, 1, 0)]
/-- FlashTree$Operations.addMark (II)V -/
def K50 : List (Option Ent) := [some (.aload_n 0, 1, 0), some (.iconst 4, 1, 0), some (.invokevirtual 19, 3, 46), none, none, some (.aload_n 0, 1, 0), some (.iload_n 1, 1, 0), some (.invokevirtual 19, 3, 46), none, none, some (.aload_n 0, 1, 0), some (.iload_n 2, 1, 0), some (.invokevirtual 19, 3, 46), none, none, some (.return_, 1, 0)]
/-- FlashTree$Operations.addNoMark ()V -/
def K51 : List (Option Ent) := [some (.aload_n 0, 1, 0), some (.iconst 5, 1, 0), some (.invokevirtual 19, 3, 46), none, none, some (.return_, 1, 0)]
/-- FlashTree$Operations.contentAt (II)J -/
def K52 : List (Option Ent) := [some (.lconst 0, 1, 0), some (.lstore_n 3, 1, 0), some (.iconst 0, 1, 0), some (.istore 5, 2, 0), none, some (.iload 5, 2, 0), none, some (.iload_n 2, 1, 0), some (.if_icmp .ge 34, 3, 0), none, none, some (.iload 5, 2, 0), none, some (.bipush 6, 2, 0), none, some (.if_icmp .ge 27, 3, 0), none, none, some (.lload_n 3, 1, 0), some (.aload_n 0, 1, 0), some (.iload_n 1, 1, 0), some (.iload 5, 2, 0), none, some (.iadd, 1, 0), some (.invokevirtual 23, 3, 45), none, none, some (.i2l, 1, 0), some (.bipush 8, 2, 0), none, some (.iload 5, 2, 0), none, some (.imul, 1, 0), some (.lshl, 1, 0), some (.lor, 1, 0), some (.lstore_n 3, 1, 0), some (.iinc 5 1, 3, 0), none, none, some (.goto (-34), 3, 0), none, none, some (.lload_n 3, 1, 0), some (.lreturn, 1, 0)]
/-- FlashTree.<init> ()V -/
def K53 : List (Option Ent) := [some (.aload_n 0, 1, 0), some (.invokespecial 1, 3, 999), none, none, some (.new 7, 3, 0), none, none, some (.dup, 1, 0), some (.invokespecial 9, 3, 0), none, none, some (.astore_n 1, 1, 0), some (.new 10, 3, 3), none, none, some (.dup, 1, 0), some (.invokespecial 12, 3, 42), none, none, some (.astore_n 2, 1, 0), some (.aload_n 0, 1, 0), some (.aload_n 1, 1, 0), some (.putfield 13, 3, 128), none, none, some (.aload_n 0, 1, 0), some (.bipush 8, 2, 0), none, some (.anewarray 19, 3, 1), none, none, some (.putfield 21, 3, 129), none, none, some (.aload_n 0, 1, 0), some (.bipush 8, 2, 0), none, some (.newarray .boolean, 2, 0), none, some (.putfield 25, 3, 130), none, none, some (.aload_n 0, 1, 0), some (.bipush 8, 2, 0), none, some (.newarray .boolean, 2, 0), none, some (.putfield 29, 3, 131), none, none, some (.aload_n 0, 1, 0), some (.bipush 8, 2, 0), none, some (.newarray .int, 2, 0), none, some (.putfield 32, 3, 132), none, none, some (.aload_n 0, 1, 0), some (.new 10, 3, 3), none, none, some (.dup, 1, 0), some (.invokespecial 12, 3, 42), none, none, some (.putfield 36, 3, 133), none, none, some (.aload_n 0, 1, 0), some (.iconst 0, 1, 0), some (.putfield 40, 3, 134), none, none, some (.iconst 0, 1, 0), some (.istore_n 3, 1, 0), some (.iload_n 3, 1, 0), some (.bipush 8, 2, 0), none, some (.if_icmp .ge 25, 3, 0), none, none, some (.aload_n 0, 1, 0), some (.getfield 21, 3, 129), none, none, some (.iload_n 3, 1, 0), some (.new 19, 3, 1), none, none, some (.dup, 1, 0), some (.iload_n 3, 1, 0), some (.aload_n 1, 1, 0), some (.aload_n 2, 1, 0), some (.invokespecial 44, 3, 13), none, none, some (.aastore, 1, 0), some (.iinc 3 1, 3, 0), none, none, some (.goto (-25), 3, 0), none, none, some (.return_, 1, 0)]
/-- FlashTree.cut (I)V -/
def K54 : List (Option Ent) := [some (.aload_n 0, 1, 0), some (.getfield 13, 3, 128), none, none, some (.iload_n 1, 1, 0), some (.invokevirtual 47, 3, 1), none, none, some (.return_, 1, 0)]
/-- FlashTree.off ()Z -/
def K55 : List (Option Ent) := [some (.aload_n 0, 1, 0), some (.getfield 13, 3, 128), none, none, some (.invokevirtual 51, 3, 3), none, none, some (.ireturn, 1, 0)]
/-- FlashTree.on ()V -/
def K56 : List (Option Ent) := [some (.aload_n 0, 1, 0), some (.getfield 13, 3, 128), none, none, some (.invokevirtual 55, 3, 2), none, none, some (.aload_n 0, 1, 0), some (.iconst 0, 1, 0), some (.putfield 40, 3, 134), none, none, some (.return_, 1, 0)]
/-- FlashTree.format ()I -/
def K57 : List (Option Ent) := [some (.aload_n 0, 1, 0), some (.iconst 0, 1, 0), some (.putfield 40, 3, 134), none, none, some (.aload_n 0, 1, 0), some (.getfield 13, 3, 128), none, none, some (.invokevirtual 51, 3, 3), none, none, some (.ifCond .eq 6, 3, 0), none, none, some (.bipush (-9), 2, 0), none, some (.ireturn, 1, 0), some (.aload_n 0, 1, 0), some (.iconst 0, 1, 0), some (.invokevirtual 58, 3, 76), none, none, some (.astore_n 1, 1, 0), some (.aload_n 1, 1, 0), some (.ifnull 14, 3, 0), none, none, some (.aload_n 1, 1, 0), some (.invokevirtual 62, 3, 16), none, none, some (.ifCond .eq 7, 3, 0), none, none, some (.iconst 0, 1, 0), some (.goto 5, 3, 0), none, none, some (.bipush (-9), 2, 0), none, some (.ireturn, 1, 0)]
/-- FlashTree.mount ()I -/
def K58 : List (Option Ent) := [some (.aload_n 0, 1, 0), some (.iconst 0, 1, 0), some (.putfield 40, 3, 134), none, none, some (.aload_n 0, 1, 0), some (.getfield 13, 3, 128), none, none, some (.invokevirtual 51, 3, 3), none, none, some (.ifCond .eq 6, 3, 0), none, none, some (.bipush (-9), 2, 0), none, some (.ireturn, 1, 0), some (.aload_n 0, 1, 0), some (.iconst 0, 1, 0), some (.invokevirtual 58, 3, 76), none, none, some (.astore_n 1, 1, 0), some (.aload_n 1, 1, 0), some (.ifnull 11, 3, 0), none, none, some (.aload_n 1, 1, 0), some (.invokevirtual 65, 3, 14), none, none, some (.iconst (-1), 1, 0), some (.if_icmp .ne 6, 3, 0), none, none, some (.bipush (-7), 2, 0), none, some (.ireturn, 1, 0), some (.aload_n 0, 1, 0), some (.invokevirtual 69, 3, 80), none, none, some (.aload_n 0, 1, 0), some (.iconst 0, 1, 0), some (.aload_n 0, 1, 0), some (.getfield 25, 3, 130), none, none, some (.invokevirtual 72, 3, 81), none, none, some (.aload_n 0, 1, 0), some (.invokevirtual 76, 3, 82), none, none, some (.ifCond .ne 6, 3, 0), none, none, some (.bipush (-9), 2, 0), none, some (.ireturn, 1, 0), some (.aload_n 0, 1, 0), some (.iconst 0, 1, 0), some (.aload_n 0, 1, 0), some (.getfield 25, 3, 130), none, none, some (.invokevirtual 72, 3, 81), none, none, some (.aload_n 0, 1, 0), some (.iconst 1, 1, 0), some (.putfield 40, 3, 134), none, none, some (.iconst 0, 1, 0), some (.ireturn, 1, 0)]
/-- FlashTree.make (II)I -/
def K59 : List (Option Ent) := [some (.aload_n 0, 1, 0), some (.iload_n 1, 1, 0), some (.invokevirtual 79, 3, 78), none, none, some (.astore_n 3, 1, 0), some (.aload_n 3, 1, 0), some (.ifnonnull 8, 3, 0), none, none, some (.aload_n 0, 1, 0), some (.invokevirtual 82, 3, 72), none, none, some (.ireturn, 1, 0), some (.iload_n 2, 1, 0), some (.invokestatic 85, 3, 74), none, none, some (.ifCond .ne 5, 3, 0), none, none, some (.iconst (-1), 1, 0), some (.ireturn, 1, 0), some (.aload_n 3, 1, 0), some (.getfield 89, 3, 35), none, none, some (.iload_n 2, 1, 0), some (.invokevirtual 93, 3, 28), none, none, some (.iconst (-1), 1, 0), some (.if_icmp .eq 6, 3, 0), none, none, some (.bipush (-2), 2, 0), none, some (.ireturn, 1, 0), some (.aload_n 3, 1, 0), some (.getfield 89, 3, 35), none, none, some (.invokevirtual 99, 3, 26), none, none, some (.ifCond .eq 6, 3, 0), none, none, some (.bipush (-3), 2, 0), none, some (.ireturn, 1, 0), some (.aload_n 0, 1, 0), some (.invokevirtual 102, 3, 79), none, none, some (.istore 4, 2, 0), none, some (.aload_n 0, 1, 0), some (.iload 4, 2, 0), none, some (.invokevirtual 58, 3, 76), none, none, some (.astore 5, 2, 0), none, some (.aload 5, 2, 0), none, some (.ifnonnull 6, 3, 0), none, none, some (.bipush (-4), 2, 0), none, some (.ireturn, 1, 0), some (.aload_n 0, 1, 0), some (.getfield 36, 3, 133), none, none, some (.invokevirtual 105, 3, 43), none, none, some (.aload_n 0, 1, 0), some (.getfield 36, 3, 133), none, none, some (.iload_n 2, 1, 0), some (.iload 4, 2, 0), none, some (.invokevirtual 108, 3, 48), none, none, some (.aload_n 0, 1, 0), some (.aload 5, 2, 0), none, some (.invokevirtual 62, 3, 16), none, none, some (.ifCond .eq 18, 3, 0), none, none, some (.aload_n 3, 1, 0), some (.aload_n 0, 1, 0), some (.getfield 36, 3, 133), none, none, some (.invokevirtual 112, 3, 17), none, none, some (.ifCond .eq 7, 3, 0), none, none, some (.iconst 1, 1, 0), some (.goto 4, 3, 0), none, none, some (.iconst 0, 1, 0), some (.iload 4, 2, 0), none, some (.invokevirtual 116, 3, 73), none, none, some (.ireturn, 1, 0)]
/-- FlashTree.write (IIIJ)I -/
def K60 : List (Option Ent) := [some (.aload_n 0, 1, 0), some (.iload_n 1, 1, 0), some (.invokevirtual 79, 3, 78), none, none, some (.astore 6, 2, 0), none, some (.aload 6, 2, 0), none, some (.ifnonnull 8, 3, 0), none, none, some (.aload_n 0, 1, 0), some (.invokevirtual 82, 3, 72), none, none, some (.ireturn, 1, 0), some (.iload_n 2, 1, 0), some (.invokestatic 85, 3, 74), none, none, some (.ifCond .eq 13, 3, 0), none, none, some (.iload_n 3, 1, 0), some (.ifCond .lt 9, 3, 0), none, none, some (.iload_n 3, 1, 0), some (.bipush 6, 2, 0), none, some (.if_icmp .le 5, 3, 0), none, none, some (.iconst (-1), 1, 0), some (.ireturn, 1, 0), some (.aload 6, 2, 0), none, some (.getfield 89, 3, 35), none, none, some (.iload_n 2, 1, 0), some (.invokevirtual 93, 3, 28), none, none, some (.istore 7, 2, 0), none, some (.aload 6, 2, 0), none, some (.getfield 89, 3, 35), none, none, some (.iload 7, 2, 0), none, some (.invokevirtual 120, 3, 30), none, none, some (.ifCond .eq 6, 3, 0), none, none, some (.bipush (-2), 2, 0), none, some (.ireturn, 1, 0), some (.iload 7, 2, 0), none, some (.iconst (-1), 1, 0), some (.if_icmp .ne 17, 3, 0), none, none, some (.aload 6, 2, 0), none, some (.getfield 89, 3, 35), none, none, some (.invokevirtual 99, 3, 26), none, none, some (.ifCond .eq 6, 3, 0), none, none, some (.bipush (-3), 2, 0), none, some (.ireturn, 1, 0), some (.aload_n 0, 1, 0), some (.getfield 36, 3, 133), none, none, some (.invokevirtual 105, 3, 43), none, none, some (.aload_n 0, 1, 0), some (.getfield 36, 3, 133), none, none, some (.iload_n 2, 1, 0), some (.iload_n 3, 1, 0), some (.lload 4, 2, 0), none, some (.invokevirtual 123, 3, 47), none, none, some (.aload_n 0, 1, 0), some (.aload 6, 2, 0), none, some (.aload_n 0, 1, 0), some (.getfield 36, 3, 133), none, none, some (.invokevirtual 112, 3, 17), none, none, some (.iconst 0, 1, 0), some (.invokevirtual 116, 3, 73), none, none, some (.ireturn, 1, 0)]
/-- FlashTree.remove (II)I -/
def K61 : List (Option Ent) := [some (.aload_n 0, 1, 0), some (.iload_n 1, 1, 0), some (.invokevirtual 79, 3, 78), none, none, some (.astore_n 3, 1, 0), some (.aload_n 3, 1, 0), some (.ifnonnull 8, 3, 0), none, none, some (.aload_n 0, 1, 0), some (.invokevirtual 82, 3, 72), none, none, some (.ireturn, 1, 0), some (.aload_n 3, 1, 0), some (.getfield 89, 3, 35), none, none, some (.iload_n 2, 1, 0), some (.invokevirtual 93, 3, 28), none, none, some (.istore 4, 2, 0), none, some (.iload 4, 2, 0), none, some (.iconst (-1), 1, 0), some (.if_icmp .ne 5, 3, 0), none, none, some (.iconst (-1), 1, 0), some (.ireturn, 1, 0), some (.aload_n 0, 1, 0), some (.aload_n 3, 1, 0), some (.getfield 89, 3, 35), none, none, some (.iload 4, 2, 0), none, some (.invokevirtual 127, 3, 32), none, none, some (.invokevirtual 58, 3, 76), none, none, some (.astore 5, 2, 0), none, some (.aload 5, 2, 0), none, some (.ifnull 17, 3, 0), none, none, some (.aload 5, 2, 0), none, some (.getfield 89, 3, 35), none, none, some (.invokevirtual 130, 3, 25), none, none, some (.ifCond .ne 6, 3, 0), none, none, some (.bipush (-5), 2, 0), none, some (.ireturn, 1, 0), some (.aload_n 0, 1, 0), some (.getfield 36, 3, 133), none, none, some (.invokevirtual 105, 3, 43), none, none, some (.aload_n 0, 1, 0), some (.getfield 36, 3, 133), none, none, some (.iload_n 2, 1, 0), some (.invokevirtual 133, 3, 49), none, none, some (.aload_n 0, 1, 0), some (.aload_n 3, 1, 0), some (.aload_n 0, 1, 0), some (.getfield 36, 3, 133), none, none, some (.invokevirtual 112, 3, 17), none, none, some (.iconst 0, 1, 0), some (.invokevirtual 116, 3, 73), none, none, some (.ireturn, 1, 0)]
/-- FlashTree.rename (IIII)I -/
def K62 : List (Option Ent) := [some (.aload_n 0, 1, 0), some (.iload_n 1, 1, 0), some (.invokevirtual 79, 3, 78), none, none, some (.astore 5, 2, 0), none, some (.aload_n 0, 1, 0), some (.iload_n 3, 1, 0), some (.invokevirtual 79, 3, 78), none, none, some (.astore 6, 2, 0), none, some (.aload 5, 2, 0), none, some (.ifnull 8, 3, 0), none, none, some (.aload 6, 2, 0), none, some (.ifnonnull 8, 3, 0), none, none, some (.aload_n 0, 1, 0), some (.invokevirtual 82, 3, 72), none, none, some (.ireturn, 1, 0), some (.aload 5, 2, 0), none, some (.getfield 89, 3, 35), none, none, some (.iload_n 2, 1, 0), some (.invokevirtual 93, 3, 28), none, none, some (.istore 7, 2, 0), none, some (.iload 7, 2, 0), none, some (.iconst (-1), 1, 0), some (.if_icmp .eq 11, 3, 0), none, none, some (.iload 4, 2, 0), none, some (.invokestatic 85, 3, 74), none, none, some (.ifCond .ne 5, 3, 0), none, none, some (.iconst (-1), 1, 0), some (.ireturn, 1, 0), some (.iload_n 1, 1, 0), some (.iload_n 3, 1, 0), some (.if_icmp .ne 11, 3, 0), none, none, some (.iload_n 2, 1, 0), some (.iload 4, 2, 0), none, some (.if_icmp .ne 5, 3, 0), none, none, some (.iconst 0, 1, 0), some (.ireturn, 1, 0), some (.aload_n 0, 1, 0), some (.aload 5, 2, 0), none, some (.iload 7, 2, 0), none, some (.aload 6, 2, 0), none, some (.iload 4, 2, 0), none, some (.invokevirtual 136, 3, 84), none, none, some (.istore 8, 2, 0), none, some (.iload 8, 2, 0), none, some (.ifCond .eq 6, 3, 0), none, none, some (.iload 8, 2, 0), none, some (.ireturn, 1, 0), some (.iload_n 1, 1, 0), some (.iload_n 3, 1, 0), some (.if_icmp .ne 16, 3, 0), none, none, some (.aload_n 0, 1, 0), some (.aload 5, 2, 0), none, some (.iload 7, 2, 0), none, some (.iload 4, 2, 0), none, some (.invokevirtual 140, 3, 86), none, none, some (.goto 15, 3, 0), none, none, some (.aload_n 0, 1, 0), some (.aload 5, 2, 0), none, some (.iload 7, 2, 0), none, some (.aload 6, 2, 0), none, some (.iload 4, 2, 0), none, some (.invokevirtual 144, 3, 87), none, none, some (.istore 9, 2, 0), none, some (.aload_n 0, 1, 0), some (.iload 9, 2, 0), none, some (.iconst 0, 1, 0), some (.invokevirtual 116, 3, 73), none, none, some (.ireturn, 1, 0)]
/-- FlashTree.entry (II)I -/
def K63 : List (Option Ent) := [some (.aload_n 0, 1, 0), some (.iload_n 1, 1, 0), some (.invokevirtual 79, 3, 78), none, none, some (.astore_n 3, 1, 0), some (.aload_n 3, 1, 0), some (.ifnonnull 10, 3, 0), none, none, some (.aload_n 0, 1, 0), some (.invokevirtual 82, 3, 72), none, none, some (.goto 11, 3, 0), none, none, some (.aload_n 3, 1, 0), some (.getfield 89, 3, 35), none, none, some (.iload_n 2, 1, 0), some (.invokevirtual 148, 3, 31), none, none, some (.ireturn, 1, 0)]
/-- FlashTree.kind (II)I -/
def K64 : List (Option Ent) := [some (.aload_n 0, 1, 0), some (.iload_n 1, 1, 0), some (.invokevirtual 79, 3, 78), none, none, some (.astore_n 3, 1, 0), some (.aload_n 3, 1, 0), some (.ifnonnull 8, 3, 0), none, none, some (.aload_n 0, 1, 0), some (.invokevirtual 82, 3, 72), none, none, some (.ireturn, 1, 0), some (.aload_n 3, 1, 0), some (.getfield 89, 3, 35), none, none, some (.iload_n 2, 1, 0), some (.invokevirtual 93, 3, 28), none, none, some (.istore 4, 2, 0), none, some (.iload 4, 2, 0), none, some (.iconst (-1), 1, 0), some (.if_icmp .ne 5, 3, 0), none, none, some (.iconst 0, 1, 0), some (.ireturn, 1, 0), some (.aload_n 3, 1, 0), some (.getfield 89, 3, 35), none, none, some (.iload 4, 2, 0), none, some (.invokevirtual 120, 3, 30), none, none, some (.ifCond .eq 7, 3, 0), none, none, some (.iconst 2, 1, 0), some (.goto 4, 3, 0), none, none, some (.iconst 1, 1, 0), some (.ireturn, 1, 0)]
/-- FlashTree.size (II)I -/
def K65 : List (Option Ent) := [some (.aload_n 0, 1, 0), some (.iload_n 1, 1, 0), some (.invokevirtual 79, 3, 78), none, none, some (.astore_n 3, 1, 0), some (.aload_n 3, 1, 0), some (.ifnonnull 8, 3, 0), none, none, some (.aload_n 0, 1, 0), some (.invokevirtual 82, 3, 72), none, none, some (.ireturn, 1, 0), some (.aload_n 3, 1, 0), some (.getfield 89, 3, 35), none, none, some (.iload_n 2, 1, 0), some (.invokevirtual 151, 3, 29), none, none, some (.istore 4, 2, 0), none, some (.iload 4, 2, 0), none, some (.iconst (-1), 1, 0), some (.if_icmp .ne 7, 3, 0), none, none, some (.iconst (-1), 1, 0), some (.goto 12, 3, 0), none, none, some (.aload_n 3, 1, 0), some (.getfield 89, 3, 35), none, none, some (.iload 4, 2, 0), none, some (.invokevirtual 154, 3, 33), none, none, some (.ireturn, 1, 0)]
/-- FlashTree.data (II)J -/
def K66 : List (Option Ent) := [some (.aload_n 0, 1, 0), some (.iload_n 1, 1, 0), some (.invokevirtual 79, 3, 78), none, none, some (.astore_n 3, 1, 0), some (.aload_n 3, 1, 0), some (.ifnonnull 9, 3, 0), none, none, some (.aload_n 0, 1, 0), some (.invokevirtual 82, 3, 72), none, none, some (.i2l, 1, 0), some (.lreturn, 1, 0), some (.aload_n 3, 1, 0), some (.getfield 89, 3, 35), none, none, some (.iload_n 2, 1, 0), some (.invokevirtual 151, 3, 29), none, none, some (.istore 4, 2, 0), none, some (.iload 4, 2, 0), none, some (.iconst (-1), 1, 0), some (.if_icmp .ne 9, 3, 0), none, none, some (.ldc2_w 157, 3, 0), none, none, some (.goto 12, 3, 0), none, none, some (.aload_n 3, 1, 0), some (.getfield 89, 3, 35), none, none, some (.iload 4, 2, 0), none, some (.invokevirtual 159, 3, 34), none, none, some (.lreturn, 1, 0)]
/-- FlashTree.child (II)I -/
def K67 : List (Option Ent) := [some (.aload_n 0, 1, 0), some (.iload_n 1, 1, 0), some (.invokevirtual 79, 3, 78), none, none, some (.astore_n 3, 1, 0), some (.aload_n 3, 1, 0), some (.ifnonnull 8, 3, 0), none, none, some (.aload_n 0, 1, 0), some (.invokevirtual 82, 3, 72), none, none, some (.ireturn, 1, 0), some (.aload_n 3, 1, 0), some (.getfield 89, 3, 35), none, none, some (.iload_n 2, 1, 0), some (.invokevirtual 93, 3, 28), none, none, some (.istore 4, 2, 0), none, some (.aload_n 3, 1, 0), some (.getfield 89, 3, 35), none, none, some (.iload 4, 2, 0), none, some (.invokevirtual 120, 3, 30), none, none, some (.ifCond .eq 15, 3, 0), none, none, some (.aload_n 3, 1, 0), some (.getfield 89, 3, 35), none, none, some (.iload 4, 2, 0), none, some (.invokevirtual 127, 3, 32), none, none, some (.goto 4, 3, 0), none, none, some (.iconst (-1), 1, 0), some (.ireturn, 1, 0)]
/-- FlashTree.free ()I -/
def K68 : List (Option Ent) := [some (.aload_n 0, 1, 0), some (.getfield 40, 3, 134), none, none, some (.ifCond .ne 8, 3, 0), none, none, some (.aload_n 0, 1, 0), some (.invokevirtual 82, 3, 72), none, none, some (.ireturn, 1, 0), some (.iconst 0, 1, 0), some (.istore_n 1, 1, 0), some (.iconst 0, 1, 0), some (.istore_n 2, 1, 0), some (.iload_n 2, 1, 0), some (.bipush 8, 2, 0), none, some (.if_icmp .ge 21, 3, 0), none, none, some (.aload_n 0, 1, 0), some (.getfield 25, 3, 130), none, none, some (.iload_n 2, 1, 0), some (.baload, 1, 0), some (.ifCond .ne 6, 3, 0), none, none, some (.iinc 1 1, 3, 0), none, none, some (.iinc 2 1, 3, 0), none, none, some (.goto (-21), 3, 0), none, none, some (.iload_n 1, 1, 0), some (.ireturn, 1, 0)]
/-- FlashTree.byteAt (II)I -/
def K69 : List (Option Ent) := [some (.aload_n 0, 1, 0), some (.getfield 13, 3, 128), none, none, some (.iload_n 1, 1, 0), some (.iload_n 2, 1, 0), some (.invokevirtual 163, 3, 6), none, none, some (.ireturn, 1, 0)]
/-- FlashTree.wear (I)I -/
def K70 : List (Option Ent) := [some (.aload_n 0, 1, 0), some (.getfield 13, 3, 128), none, none, some (.iload_n 1, 1, 0), some (.invokevirtual 167, 3, 5), none, none, some (.ireturn, 1, 0)]
/-- FlashTree.units ()I -/
def K71 : List (Option Ent) := [some (.aload_n 0, 1, 0), some (.getfield 13, 3, 128), none, none, some (.invokevirtual 170, 3, 4), none, none, some (.ireturn, 1, 0)]
/-- FlashTree.refusal ()I -/
def K72 : List (Option Ent) := [some (.aload_n 0, 1, 0), some (.getfield 13, 3, 128), none, none, some (.invokevirtual 51, 3, 3), none, none, some (.ifCond .eq 6, 3, 0), none, none, some (.bipush (-9), 2, 0), none, some (.ireturn, 1, 0), some (.aload_n 0, 1, 0), some (.getfield 40, 3, 134), none, none, some (.ifCond .eq 7, 3, 0), none, none, some (.iconst (-1), 1, 0), some (.goto 5, 3, 0), none, none, some (.bipush (-8), 2, 0), none, some (.ireturn, 1, 0)]
/-- FlashTree.ended (ZI)I -/
def K73 : List (Option Ent) := [some (.iload_n 1, 1, 0), some (.ifCond .ne 11, 3, 0), none, none, some (.aload_n 0, 1, 0), some (.iconst 0, 1, 0), some (.putfield 40, 3, 134), none, none, some (.bipush (-9), 2, 0), none, some (.ireturn, 1, 0), some (.aload_n 0, 1, 0), some (.iconst 0, 1, 0), some (.aload_n 0, 1, 0), some (.getfield 25, 3, 130), none, none, some (.invokevirtual 72, 3, 81), none, none, some (.iload_n 2, 1, 0), some (.ireturn, 1, 0)]
/-- FlashTree.isName (I)Z -/
def K74 : List (Option Ent) := [some (.iload_n 0, 1, 0), some (.iconst 1, 1, 0), some (.if_icmp .lt 13, 3, 0), none, none, some (.iload_n 0, 1, 0), some (.bipush 99, 2, 0), none, some (.if_icmp .gt 7, 3, 0), none, none, some (.iconst 1, 1, 0), some (.goto 4, 3, 0), none, none, some (.iconst 0, 1, 0), some (.ireturn, 1, 0)]
/-- FlashTree.isPair (I)Z -/
def K75 : List (Option Ent) := [some (.iload_n 0, 1, 0), some (.ifCond .lt 13, 3, 0), none, none, some (.iload_n 0, 1, 0), some (.bipush 8, 2, 0), none, some (.if_icmp .ge 7, 3, 0), none, none, some (.iconst 1, 1, 0), some (.goto 4, 3, 0), none, none, some (.iconst 0, 1, 0), some (.ireturn, 1, 0)]
/-- FlashTree.folderAt (I)LFlashTree$Folder; -/
def K76 : List (Option Ent) := [some (.iload_n 1, 1, 0), some (.invokestatic 173, 3, 75), none, none, some (.ifCond .eq 12, 3, 0), none, none, some (.aload_n 0, 1, 0), some (.getfield 21, 3, 129), none, none, some (.iload_n 1, 1, 0), some (.aaload, 1, 0), some (.goto 4, 3, 0), none, none, some (.aconst_null, 1, 0), some (.areturn, 1, 0)]
/-- FlashTree.folderReached (I)LFlashTree$Folder; -/
def K77 : List (Option Ent) := [some (.iload_n 1, 1, 0), some (.invokestatic 173, 3, 75), none, none, some (.ifCond .eq 21, 3, 0), none, none, some (.aload_n 0, 1, 0), some (.getfield 25, 3, 130), none, none, some (.iload_n 1, 1, 0), some (.baload, 1, 0), some (.ifCond .eq 12, 3, 0), none, none, some (.aload_n 0, 1, 0), some (.getfield 21, 3, 129), none, none, some (.iload_n 1, 1, 0), some (.aaload, 1, 0), some (.goto 4, 3, 0), none, none, some (.aconst_null, 1, 0), some (.areturn, 1, 0)]
/-- FlashTree.folderThere (I)LFlashTree$Folder; -/
def K78 : List (Option Ent) := [some (.aload_n 0, 1, 0), some (.getfield 40, 3, 134), none, none, some (.ifCond .eq 11, 3, 0), none, none, some (.aload_n 0, 1, 0), some (.iload_n 1, 1, 0), some (.invokevirtual 176, 3, 77), none, none, some (.goto 4, 3, 0), none, none, some (.aconst_null, 1, 0), some (.areturn, 1, 0)]
/-- FlashTree.lowestFreePair ()I -/
def K79 : List (Option Ent) := [some (.iconst 0, 1, 0), some (.istore_n 1, 1, 0), some (.iload_n 1, 1, 0), some (.bipush 8, 2, 0), none, some (.if_icmp .ge 20, 3, 0), none, none, some (.aload_n 0, 1, 0), some (.getfield 25, 3, 130), none, none, some (.iload_n 1, 1, 0), some (.baload, 1, 0), some (.ifCond .ne 5, 3, 0), none, none, some (.iload_n 1, 1, 0), some (.ireturn, 1, 0), some (.iinc 1 1, 3, 0), none, none, some (.goto (-20), 3, 0), none, none, some (.iconst (-1), 1, 0), some (.ireturn, 1, 0)]
/-- FlashTree.loadAll ()V -/
def K80 : List (Option Ent) := [some (.iconst 0, 1, 0), some (.istore_n 1, 1, 0), some (.iload_n 1, 1, 0), some (.bipush 8, 2, 0), none, some (.if_icmp .ge 23, 3, 0), none, none, some (.aload_n 0, 1, 0), some (.iload_n 1, 1, 0), some (.invokevirtual 58, 3, 76), none, none, some (.astore_n 2, 1, 0), some (.aload_n 2, 1, 0), some (.ifnull 7, 3, 0), none, none, some (.aload_n 2, 1, 0), some (.invokevirtual 179, 3, 15), none, none, some (.iinc 1 1, 3, 0), none, none, some (.goto (-23), 3, 0), none, none, some (.return_, 1, 0)]
/-- FlashTree.reach (I[Z)V -/
def K81 : List (Option Ent) := [some (.iconst 0, 1, 0), some (.istore_n 3, 1, 0), some (.iload_n 3, 1, 0), some (.bipush 8, 2, 0), none, some (.if_icmp .ge 28, 3, 0), none, none, some (.iload_n 3, 1, 0), some (.aload_n 2, 1, 0), some (.arraylength, 1, 0), some (.if_icmp .ge 22, 3, 0), none, none, some (.aload_n 2, 1, 0), some (.iload_n 3, 1, 0), some (.iload_n 3, 1, 0), some (.iload_n 1, 1, 0), some (.if_icmp .ne 7, 3, 0), none, none, some (.iconst 1, 1, 0), some (.goto 4, 3, 0), none, none, some (.iconst 0, 1, 0), some (.bastore, 1, 0), some (.iinc 3 1, 3, 0), none, none, some (.goto (-28), 3, 0), none, none, some (.aload_n 0, 1, 0), some (.getfield 32, 3, 132), none, none, some (.iconst 0, 1, 0), some (.iload_n 1, 1, 0), some (.iastore, 1, 0), some (.iconst 1, 1, 0), some (.istore_n 3, 1, 0), some (.iconst 0, 1, 0), some (.istore 4, 2, 0), none, some (.iload 4, 2, 0), none, some (.iload_n 3, 1, 0), some (.if_icmp .ge 105, 3, 0), none, none, some (.iload 4, 2, 0), none, some (.bipush 8, 2, 0), none, some (.if_icmp .ge 98, 3, 0), none, none, some (.aload_n 0, 1, 0), some (.aload_n 0, 1, 0), some (.getfield 32, 3, 132), none, none, some (.iload 4, 2, 0), none, some (.iaload, 1, 0), some (.invokevirtual 58, 3, 76), none, none, some (.astore 5, 2, 0), none, some (.iconst 0, 1, 0), some (.istore 6, 2, 0), none, some (.aload 5, 2, 0), none, some (.ifnull 71, 3, 0), none, none, some (.iload 6, 2, 0), none, some (.iconst 4, 1, 0), some (.if_icmp .ge 65, 3, 0), none, none, some (.aload 5, 2, 0), none, some (.getfield 89, 3, 35), none, none, some (.iload 6, 2, 0), none, some (.invokevirtual 127, 3, 32), none, none, some (.istore 7, 2, 0), none, some (.iload 7, 2, 0), none, some (.invokestatic 173, 3, 75), none, none, some (.ifCond .eq 39, 3, 0), none, none, some (.iload 7, 2, 0), none, some (.aload_n 2, 1, 0), some (.arraylength, 1, 0), some (.if_icmp .ge 32, 3, 0), none, none, some (.aload_n 2, 1, 0), some (.iload 7, 2, 0), none, some (.baload, 1, 0), some (.ifCond .ne 25, 3, 0), none, none, some (.iload_n 3, 1, 0), some (.bipush 8, 2, 0), none, some (.if_icmp .ge 19, 3, 0), none, none, some (.aload_n 2, 1, 0), some (.iload 7, 2, 0), none, some (.iconst 1, 1, 0), some (.bastore, 1, 0), some (.aload_n 0, 1, 0), some (.getfield 32, 3, 132), none, none, some (.iload_n 3, 1, 0), some (.iload 7, 2, 0), none, some (.iastore, 1, 0), some (.iinc 3 1, 3, 0), none, none, some (.iinc 6 1, 3, 0), none, none, some (.goto (-70), 3, 0), none, none, some (.iinc 4 1, 3, 0), none, none, some (.goto (-105), 3, 0), none, none, some (.return_, 1, 0)]
/-- FlashTree.finishMove ()Z -/
def K82 : List (Option Ent) := [some (.iconst 0, 1, 0), some (.istore_n 1, 1, 0), some (.iload_n 1, 1, 0), some (.bipush 8, 2, 0), none, some (.if_icmp .ge 35, 3, 0), none, none, some (.aload_n 0, 1, 0), some (.iload_n 1, 1, 0), some (.invokevirtual 176, 3, 77), none, none, some (.astore_n 2, 1, 0), some (.aload_n 2, 1, 0), some (.ifnull 19, 3, 0), none, none, some (.aload_n 2, 1, 0), some (.getfield 89, 3, 35), none, none, some (.invokevirtual 182, 3, 27), none, none, some (.ifCond .eq 9, 3, 0), none, none, some (.aload_n 0, 1, 0), some (.aload_n 2, 1, 0), some (.invokevirtual 185, 3, 83), none, none, some (.ireturn, 1, 0), some (.iinc 1 1, 3, 0), none, none, some (.goto (-35), 3, 0), none, none, some (.iconst 1, 1, 0), some (.ireturn, 1, 0)]
/-- FlashTree.finishMoveTo (LFlashTree$Folder;)Z -/
def K83 : List (Option Ent) := [some (.aload_n 1, 1, 0), some (.getfield 89, 3, 35), none, none, some (.getfield 189, 3, 70), none, none, some (.istore_n 2, 1, 0), some (.aload_n 0, 1, 0), some (.aload_n 1, 1, 0), some (.getfield 89, 3, 35), none, none, some (.getfield 193, 3, 69), none, none, some (.invokevirtual 176, 3, 77), none, none, some (.astore_n 3, 1, 0), some (.aload_n 3, 1, 0), some (.ifnull 43, 3, 0), none, none, some (.aload_n 3, 1, 0), some (.getfield 89, 3, 35), none, none, some (.iload_n 2, 1, 0), some (.invokevirtual 93, 3, 28), none, none, some (.iconst (-1), 1, 0), some (.if_icmp .eq 31, 3, 0), none, none, some (.aload_n 0, 1, 0), some (.getfield 36, 3, 133), none, none, some (.invokevirtual 105, 3, 43), none, none, some (.aload_n 0, 1, 0), some (.getfield 36, 3, 133), none, none, some (.iload_n 2, 1, 0), some (.invokevirtual 133, 3, 49), none, none, some (.aload_n 3, 1, 0), some (.aload_n 0, 1, 0), some (.getfield 36, 3, 133), none, none, some (.invokevirtual 112, 3, 17), none, none, some (.ifCond .ne 5, 3, 0), none, none, some (.iconst 0, 1, 0), some (.ireturn, 1, 0), some (.aload_n 0, 1, 0), some (.getfield 36, 3, 133), none, none, some (.invokevirtual 105, 3, 43), none, none, some (.aload_n 0, 1, 0), some (.getfield 36, 3, 133), none, none, some (.invokevirtual 196, 3, 51), none, none, some (.aload_n 1, 1, 0), some (.aload_n 0, 1, 0), some (.getfield 36, 3, 133), none, none, some (.invokevirtual 112, 3, 17), none, none, some (.ireturn, 1, 0)]
/-- FlashTree.moveRefusal (LFlashTree$Folder;ILFlashTree$Folder;I)I -/
def K84 : List (Option Ent) := [some (.aload_n 1, 1, 0), some (.getfield 89, 3, 35), none, none, some (.iload_n 2, 1, 0), some (.invokevirtual 120, 3, 30), none, none, some (.istore 5, 2, 0), none, some (.aload_n 3, 1, 0), some (.getfield 89, 3, 35), none, none, some (.iload 4, 2, 0), none, some (.invokevirtual 93, 3, 28), none, none, some (.istore 6, 2, 0), none, some (.iload 6, 2, 0), none, some (.iconst (-1), 1, 0), some (.if_icmp .eq 23, 3, 0), none, none, some (.iload 5, 2, 0), none, some (.ifCond .ne 15, 3, 0), none, none, some (.aload_n 3, 1, 0), some (.getfield 89, 3, 35), none, none, some (.iload 6, 2, 0), none, some (.invokevirtual 120, 3, 30), none, none, some (.ifCond .eq 6, 3, 0), none, none, some (.bipush (-2), 2, 0), none, some (.ireturn, 1, 0), some (.iload 6, 2, 0), none, some (.iconst (-1), 1, 0), some (.if_icmp .ne 27, 3, 0), none, none, some (.aload_n 1, 1, 0), some (.getfield 199, 3, 32), none, none, some (.aload_n 3, 1, 0), some (.getfield 199, 3, 32), none, none, some (.if_icmp .eq 16, 3, 0), none, none, some (.aload_n 3, 1, 0), some (.getfield 89, 3, 35), none, none, some (.invokevirtual 99, 3, 26), none, none, some (.ifCond .eq 6, 3, 0), none, none, some (.bipush (-3), 2, 0), none, some (.ireturn, 1, 0), some (.iload 5, 2, 0), none, some (.ifCond .eq 25, 3, 0), none, none, some (.aload_n 0, 1, 0), some (.aload_n 3, 1, 0), some (.getfield 199, 3, 32), none, none, some (.aload_n 1, 1, 0), some (.getfield 89, 3, 35), none, none, some (.iload_n 2, 1, 0), some (.invokevirtual 127, 3, 32), none, none, some (.invokevirtual 202, 3, 85), none, none, some (.ifCond .eq 6, 3, 0), none, none, some (.bipush (-6), 2, 0), none, some (.ireturn, 1, 0), some (.iconst 0, 1, 0), some (.ireturn, 1, 0)]
/-- FlashTree.isWithin (II)Z -/
def K85 : List (Option Ent) := [some (.aload_n 0, 1, 0), some (.iload_n 2, 1, 0), some (.aload_n 0, 1, 0), some (.getfield 29, 3, 131), none, none, some (.invokevirtual 72, 3, 81), none, none, some (.iload_n 1, 1, 0), some (.invokestatic 173, 3, 75), none, none, some (.ifCond .eq 16, 3, 0), none, none, some (.aload_n 0, 1, 0), some (.getfield 29, 3, 131), none, none, some (.iload_n 1, 1, 0), some (.baload, 1, 0), some (.ifCond .eq 7, 3, 0), none, none, some (.iconst 1, 1, 0), some (.goto 4, 3, 0), none, none, some (.iconst 0, 1, 0), some (.ireturn, 1, 0)]
/-- FlashTree.moveWithin (LFlashTree$Folder;II)Z -/
def K86 : List (Option Ent) := [some (.aload_n 0, 1, 0), some (.getfield 36, 3, 133), none, none, some (.invokevirtual 105, 3, 43), none, none, some (.aload_n 0, 1, 0), some (.getfield 36, 3, 133), none, none, some (.aload_n 1, 1, 0), some (.getfield 89, 3, 35), none, none, some (.iload_n 2, 1, 0), some (.invokevirtual 148, 3, 31), none, none, some (.invokevirtual 133, 3, 49), none, none, some (.aload_n 1, 1, 0), some (.getfield 89, 3, 35), none, none, some (.aload_n 0, 1, 0), some (.getfield 36, 3, 133), none, none, some (.iload_n 2, 1, 0), some (.iload_n 3, 1, 0), some (.invokevirtual 206, 3, 35), none, none, some (.aload_n 1, 1, 0), some (.aload_n 0, 1, 0), some (.getfield 36, 3, 133), none, none, some (.invokevirtual 112, 3, 17), none, none, some (.ireturn, 1, 0)]
/-- FlashTree.moveAcross (LFlashTree$Folder;ILFlashTree$Folder;I)Z -/
def K87 : List (Option Ent) := [some (.aload_n 1, 1, 0), some (.getfield 89, 3, 35), none, none, some (.iload_n 2, 1, 0), some (.invokevirtual 148, 3, 31), none, none, some (.istore 5, 2, 0), none, some (.aload_n 0, 1, 0), some (.getfield 36, 3, 133), none, none, some (.invokevirtual 105, 3, 43), none, none, some (.aload_n 1, 1, 0), some (.getfield 89, 3, 35), none, none, some (.aload_n 0, 1, 0), some (.getfield 36, 3, 133), none, none, some (.iload_n 2, 1, 0), some (.iload 4, 2, 0), none, some (.invokevirtual 206, 3, 35), none, none, some (.aload_n 0, 1, 0), some (.getfield 36, 3, 133), none, none, some (.aload_n 1, 1, 0), some (.getfield 199, 3, 32), none, none, some (.iload 5, 2, 0), none, some (.invokevirtual 210, 3, 50), none, none, some (.aload_n 3, 1, 0), some (.aload_n 0, 1, 0), some (.getfield 36, 3, 133), none, none, some (.invokevirtual 112, 3, 17), none, none, some (.ifCond .ne 5, 3, 0), none, none, some (.iconst 0, 1, 0), some (.ireturn, 1, 0), some (.aload_n 0, 1, 0), some (.getfield 36, 3, 133), none, none, some (.invokevirtual 105, 3, 43), none, none, some (.aload_n 0, 1, 0), some (.getfield 36, 3, 133), none, none, some (.iload 5, 2, 0), none, some (.invokevirtual 133, 3, 49), none, none, some (.aload_n 1, 1, 0), some (.aload_n 0, 1, 0), some (.getfield 36, 3, 133), none, none, some (.invokevirtual 112, 3, 17), none, none, some (.ifCond .ne 5, 3, 0), none, none, some (.iconst 0, 1, 0), some (.ireturn, 1, 0), some (.aload_n 0, 1, 0), some (.getfield 36, 3, 133), none, none, some (.invokevirtual 105, 3, 43), none, none, some (.aload_n 0, 1, 0), some (.getfield 36, 3, 133), none, none, some (.invokevirtual 196, 3, 51), none, none, some (.aload_n 3, 1, 0), some (.aload_n 0, 1, 0), some (.getfield 36, 3, 133), none, none, some (.invokevirtual 112, 3, 17), none, none, some (.ireturn, 1, 0)]
/-- FlashTreeModel.<init> ()V -/
def K88 : List (Option Ent) := [some (.aload_n 0, 1, 0), some (.invokespecial 1, 3, 999), none, none, some (.aload_n 0, 1, 0), some (.sipush 1024, 3, 0), none, none, some (.newarray .int, 2, 0), none, some (.putfield 7, 3, 160), none, none, some (.aload_n 0, 1, 0), some (.bipush 16, 2, 0), none, some (.newarray .int, 2, 0), none, some (.putfield 13, 3, 161), none, none, some (.aload_n 0, 1, 0), some (.iconst 4, 1, 0), some (.newarray .int, 2, 0), none, some (.putfield 16, 3, 167), none, none, some (.aload_n 0, 1, 0), some (.iconst 4, 1, 0), some (.newarray .int, 2, 0), none, some (.putfield 19, 3, 168), none, none, some (.aload_n 0, 1, 0), some (.iconst 4, 1, 0), some (.newarray .int, 2, 0), none, some (.putfield 22, 3, 169), none, none, some (.aload_n 0, 1, 0), some (.iconst 4, 1, 0), some (.newarray .long, 2, 0), none, some (.putfield 25, 3, 170), none, none, some (.aload_n 0, 1, 0), some (.bipush 32, 2, 0), none, some (.newarray .int, 2, 0), none, some (.putfield 29, 3, 175), none, none, some (.aload_n 0, 1, 0), some (.bipush 64, 2, 0), none, some (.newarray .int, 2, 0), none, some (.putfield 32, 3, 177), none, none, some (.iconst 0, 1, 0), some (.istore_n 1, 1, 0), some (.iload_n 1, 1, 0), some (.sipush 1024, 3, 0), none, none, some (.if_icmp .ge 18, 3, 0), none, none, some (.aload_n 0, 1, 0), some (.getfield 7, 3, 160), none, none, some (.iload_n 1, 1, 0), some (.sipush 255, 3, 0), none, none, some (.iastore, 1, 0), some (.iinc 1 1, 3, 0), none, none, some (.goto (-19), 3, 0), none, none, some (.return_, 1, 0)]
/-- FlashTreeModel.cut (I)V -/
def K89 : List (Option Ent) := [some (.aload_n 0, 1, 0), some (.iload_n 1, 1, 0), some (.ifCond .lt 7, 3, 0), none, none, some (.iconst 1, 1, 0), some (.goto 4, 3, 0), none, none, some (.iconst 0, 1, 0), some (.putfield 35, 3, 164), none, none, some (.aload_n 0, 1, 0), some (.iload_n 1, 1, 0), some (.putfield 39, 3, 165), none, none, some (.return_, 1, 0)]
/-- FlashTreeModel.off ()Z -/
def K90 : List (Option Ent) := [some (.aload_n 0, 1, 0), some (.getfield 43, 3, 162), none, none, some (.ireturn, 1, 0)]
/-- FlashTreeModel.on ()V -/
def K91 : List (Option Ent) := [some (.aload_n 0, 1, 0), some (.iconst 0, 1, 0), some (.putfield 43, 3, 162), none, none, some (.aload_n 0, 1, 0), some (.iconst 0, 1, 0), some (.putfield 46, 3, 163), none, none, some (.return_, 1, 0)]
/-- FlashTreeModel.spend ()Z -/
def K92 : List (Option Ent) := [some (.aload_n 0, 1, 0), some (.getfield 43, 3, 162), none, none, some (.ifCond .eq 5, 3, 0), none, none, some (.iconst 0, 1, 0), some (.ireturn, 1, 0), some (.aload_n 0, 1, 0), some (.getfield 35, 3, 164), none, none, some (.ifCond .eq 27, 3, 0), none, none, some (.aload_n 0, 1, 0), some (.getfield 39, 3, 165), none, none, some (.ifCond .ne 20, 3, 0), none, none, some (.aload_n 0, 1, 0), some (.iconst 1, 1, 0), some (.putfield 43, 3, 162), none, none, some (.aload_n 0, 1, 0), some (.iconst 0, 1, 0), some (.putfield 35, 3, 164), none, none, some (.aload_n 0, 1, 0), some (.iconst 0, 1, 0), some (.putfield 46, 3, 163), none, none, some (.iconst 0, 1, 0), some (.ireturn, 1, 0), some (.aload_n 0, 1, 0), some (.getfield 35, 3, 164), none, none, some (.ifCond .eq 13, 3, 0), none, none, some (.aload_n 0, 1, 0), some (.aload_n 0, 1, 0), some (.getfield 39, 3, 165), none, none, some (.iconst 1, 1, 0), some (.isub, 1, 0), some (.putfield 39, 3, 165), none, none, some (.aload_n 0, 1, 0), some (.aload_n 0, 1, 0), some (.getfield 49, 3, 166), none, none, some (.iconst 1, 1, 0), some (.iadd, 1, 0), some (.putfield 49, 3, 166), none, none, some (.iconst 1, 1, 0), some (.ireturn, 1, 0)]
/-- FlashTreeModel.program (II)Z -/
def K93 : List (Option Ent) := [some (.aload_n 0, 1, 0), some (.invokevirtual 52, 3, 92), none, none, some (.ifCond .ne 5, 3, 0), none, none, some (.iconst 0, 1, 0), some (.ireturn, 1, 0), some (.aload_n 0, 1, 0), some (.getfield 7, 3, 160), none, none, some (.iload_n 1, 1, 0), some (.iload_n 2, 1, 0), some (.sipush 255, 3, 0), none, none, some (.iand, 1, 0), some (.iastore, 1, 0), some (.iconst 1, 1, 0), some (.ireturn, 1, 0)]
/-- FlashTreeModel.erase (I)Z -/
def K94 : List (Option Ent) := [some (.aload_n 0, 1, 0), some (.invokevirtual 52, 3, 92), none, none, some (.ifCond .ne 5, 3, 0), none, none, some (.iconst 0, 1, 0), some (.ireturn, 1, 0), some (.iconst 0, 1, 0), some (.istore_n 2, 1, 0), some (.iload_n 2, 1, 0), some (.bipush 64, 2, 0), none, some (.if_icmp .ge 23, 3, 0), none, none, some (.aload_n 0, 1, 0), some (.getfield 7, 3, 160), none, none, some (.bipush 64, 2, 0), none, some (.iload_n 1, 1, 0), some (.imul, 1, 0), some (.iload_n 2, 1, 0), some (.iadd, 1, 0), some (.sipush 255, 3, 0), none, none, some (.iastore, 1, 0), some (.iinc 2 1, 3, 0), none, none, some (.goto (-23), 3, 0), none, none, some (.aload_n 0, 1, 0), some (.getfield 13, 3, 161), none, none, some (.iload_n 1, 1, 0), some (.aload_n 0, 1, 0), some (.getfield 13, 3, 161), none, none, some (.iload_n 1, 1, 0), some (.iaload, 1, 0), some (.iconst 1, 1, 0), some (.iadd, 1, 0), some (.iastore, 1, 0), some (.iconst 1, 1, 0), some (.ireturn, 1, 0)]
/-- FlashTreeModel.counts (I)Z -/
def K95 : List (Option Ent) := [some (.iconst 2, 1, 0), some (.aload_n 0, 1, 0), some (.getfield 7, 3, 160), none, none, some (.bipush 64, 2, 0), none, some (.iload_n 1, 1, 0), some (.imul, 1, 0), some (.iconst 1, 1, 0), some (.iadd, 1, 0), some (.iaload, 1, 0), some (.iadd, 1, 0), some (.istore_n 2, 1, 0), some (.iload_n 2, 1, 0), some (.bipush 64, 2, 0), none, some (.if_icmp .ge 21, 3, 0), none, none, some (.aload_n 0, 1, 0), some (.getfield 7, 3, 160), none, none, some (.bipush 64, 2, 0), none, some (.iload_n 1, 1, 0), some (.imul, 1, 0), some (.iload_n 2, 1, 0), some (.iadd, 1, 0), some (.iaload, 1, 0), some (.ifCond .ne 7, 3, 0), none, none, some (.iconst 1, 1, 0), some (.goto 4, 3, 0), none, none, some (.iconst 0, 1, 0), some (.ireturn, 1, 0)]
/-- FlashTreeModel.active (I)I -/
def K96 : List (Option Ent) := [some (.aload_n 0, 1, 0), some (.iconst 2, 1, 0), some (.iload_n 1, 1, 0), some (.imul, 1, 0), some (.invokevirtual 56, 3, 95), none, none, some (.istore_n 2, 1, 0), some (.aload_n 0, 1, 0), some (.iconst 2, 1, 0), some (.iload_n 1, 1, 0), some (.imul, 1, 0), some (.iconst 1, 1, 0), some (.iadd, 1, 0), some (.invokevirtual 56, 3, 95), none, none, some (.istore_n 3, 1, 0), some (.iload_n 2, 1, 0), some (.ifCond .eq 62, 3, 0), none, none, some (.iload_n 3, 1, 0), some (.ifCond .eq 58, 3, 0), none, none, some (.aload_n 0, 1, 0), some (.getfield 7, 3, 160), none, none, some (.sipush 128, 3, 0), none, none, some (.iload_n 1, 1, 0), some (.imul, 1, 0), some (.bipush 64, 2, 0), none, some (.iadd, 1, 0), some (.iaload, 1, 0), some (.aload_n 0, 1, 0), some (.getfield 7, 3, 160), none, none, some (.sipush 128, 3, 0), none, none, some (.iload_n 1, 1, 0), some (.imul, 1, 0), some (.iaload, 1, 0), some (.isub, 1, 0), some (.sipush 255, 3, 0), none, none, some (.iand, 1, 0), some (.istore 4, 2, 0), none, some (.iload 4, 2, 0), none, some (.iconst 1, 1, 0), some (.if_icmp .lt 18, 3, 0), none, none, some (.iload 4, 2, 0), none, some (.bipush 127, 2, 0), none, some (.if_icmp .gt 11, 3, 0), none, none, some (.iconst 2, 1, 0), some (.iload_n 1, 1, 0), some (.imul, 1, 0), some (.iconst 1, 1, 0), some (.iadd, 1, 0), some (.goto 6, 3, 0), none, none, some (.iconst 2, 1, 0), some (.iload_n 1, 1, 0), some (.imul, 1, 0), some (.ireturn, 1, 0), some (.iload_n 2, 1, 0), some (.ifCond .eq 9, 3, 0), none, none, some (.iconst 2, 1, 0), some (.iload_n 1, 1, 0), some (.imul, 1, 0), some (.goto 16, 3, 0), none, none, some (.iload_n 3, 1, 0), some (.ifCond .eq 11, 3, 0), none, none, some (.iconst 2, 1, 0), some (.iload_n 1, 1, 0), some (.imul, 1, 0), some (.iconst 1, 1, 0), some (.iadd, 1, 0), some (.goto 4, 3, 0), none, none, some (.iconst (-1), 1, 0), some (.ireturn, 1, 0)]
/-- FlashTreeModel.at (I)I -/
def K97 : List (Option Ent) := [some (.iconst 0, 1, 0), some (.istore_n 2, 1, 0), some (.iload_n 2, 1, 0), some (.aload_n 0, 1, 0), some (.getfield 60, 3, 171), none, none, some (.if_icmp .ge 21, 3, 0), none, none, some (.aload_n 0, 1, 0), some (.getfield 16, 3, 167), none, none, some (.iload_n 2, 1, 0), some (.iaload, 1, 0), some (.iload_n 1, 1, 0), some (.if_icmp .ne 5, 3, 0), none, none, some (.iload_n 2, 1, 0), some (.ireturn, 1, 0), some (.iinc 2 1, 3, 0), none, none, some (.goto (-23), 3, 0), none, none, some (.iconst (-1), 1, 0), some (.ireturn, 1, 0)]
/-- FlashTreeModel.put (IIIJ)V -/
def K98 : List (Option Ent) := [some (.aload_n 0, 1, 0), some (.iload_n 1, 1, 0), some (.invokevirtual 63, 3, 97), none, none, some (.istore 6, 2, 0), none, some (.iload 6, 2, 0), none, some (.ifCond .ge 19, 3, 0), none, none, some (.aload_n 0, 1, 0), some (.getfield 60, 3, 171), none, none, some (.istore 6, 2, 0), none, some (.aload_n 0, 1, 0), some (.aload_n 0, 1, 0), some (.getfield 60, 3, 171), none, none, some (.iconst 1, 1, 0), some (.iadd, 1, 0), some (.putfield 60, 3, 171), none, none, some (.aload_n 0, 1, 0), some (.getfield 16, 3, 167), none, none, some (.iload 6, 2, 0), none, some (.iload_n 1, 1, 0), some (.iastore, 1, 0), some (.aload_n 0, 1, 0), some (.getfield 19, 3, 168), none, none, some (.iload 6, 2, 0), none, some (.iload_n 2, 1, 0), some (.iastore, 1, 0), some (.aload_n 0, 1, 0), some (.getfield 22, 3, 169), none, none, some (.iload 6, 2, 0), none, some (.iload_n 3, 1, 0), some (.iastore, 1, 0), some (.aload_n 0, 1, 0), some (.getfield 25, 3, 170), none, none, some (.iload 6, 2, 0), none, some (.lload 4, 2, 0), none, some (.lastore, 1, 0), some (.return_, 1, 0)]
/-- FlashTreeModel.take (I)V -/
def K99 : List (Option Ent) := [some (.aload_n 0, 1, 0), some (.iload_n 1, 1, 0), some (.invokevirtual 63, 3, 97), none, none, some (.istore_n 2, 1, 0), some (.iload_n 2, 1, 0), some (.ifCond .ge 4, 3, 0), none, none, some (.return_, 1, 0), some (.aload_n 0, 1, 0), some (.aload_n 0, 1, 0), some (.getfield 60, 3, 171), none, none, some (.iconst 1, 1, 0), some (.isub, 1, 0), some (.putfield 60, 3, 171), none, none, some (.iload_n 2, 1, 0), some (.istore_n 3, 1, 0), some (.iload_n 3, 1, 0), some (.aload_n 0, 1, 0), some (.getfield 60, 3, 171), none, none, some (.if_icmp .ge 65, 3, 0), none, none, some (.aload_n 0, 1, 0), some (.getfield 16, 3, 167), none, none, some (.iload_n 3, 1, 0), some (.aload_n 0, 1, 0), some (.getfield 16, 3, 167), none, none, some (.iload_n 3, 1, 0), some (.iconst 1, 1, 0), some (.iadd, 1, 0), some (.iaload, 1, 0), some (.iastore, 1, 0), some (.aload_n 0, 1, 0), some (.getfield 19, 3, 168), none, none, some (.iload_n 3, 1, 0), some (.aload_n 0, 1, 0), some (.getfield 19, 3, 168), none, none, some (.iload_n 3, 1, 0), some (.iconst 1, 1, 0), some (.iadd, 1, 0), some (.iaload, 1, 0), some (.iastore, 1, 0), some (.aload_n 0, 1, 0), some (.getfield 22, 3, 169), none, none, some (.iload_n 3, 1, 0), some (.aload_n 0, 1, 0), some (.getfield 22, 3, 169), none, none, some (.iload_n 3, 1, 0), some (.iconst 1, 1, 0), some (.iadd, 1, 0), some (.iaload, 1, 0), some (.iastore, 1, 0), some (.aload_n 0, 1, 0), some (.getfield 25, 3, 170), none, none, some (.iload_n 3, 1, 0), some (.aload_n 0, 1, 0), some (.getfield 25, 3, 170), none, none, some (.iload_n 3, 1, 0), some (.iconst 1, 1, 0), some (.iadd, 1, 0), some (.laload, 1, 0), some (.lastore, 1, 0), some (.iinc 3 1, 3, 0), none, none, some (.goto (-67), 3, 0), none, none, some (.return_, 1, 0)]
/-- FlashTreeModel.apply ([III)V -/
def K100 : List (Option Ent) := [some (.iload_n 2, 1, 0), some (.istore 4, 2, 0), none, some (.iconst 0, 1, 0), some (.istore 5, 2, 0), none, some (.iload 5, 2, 0), none, some (.bipush 64, 2, 0), none, some (.if_icmp .ge 204, 3, 0), none, none, some (.iload 4, 2, 0), none, some (.iload_n 3, 1, 0), some (.if_icmp .ge 198, 3, 0), none, none, some (.aload_n 1, 1, 0), some (.iload 4, 2, 0), none, some (.iaload, 1, 0), some (.istore 6, 2, 0), none, some (.iload 6, 2, 0), none, some (.iconst 1, 1, 0), some (.if_icmp .ne 76, 3, 0), none, none, some (.lconst 0, 1, 0), some (.lstore 7, 2, 0), none, some (.aload_n 1, 1, 0), some (.iload 4, 2, 0), none, some (.iconst 2, 1, 0), some (.iadd, 1, 0), some (.iaload, 1, 0), some (.istore 9, 2, 0), none, some (.iload 9, 2, 0), none, some (.iconst 1, 1, 0), some (.isub, 1, 0), some (.istore 10, 2, 0), none, some (.iload 10, 2, 0), none, some (.ifCond .lt 27, 3, 0), none, none, some (.lload 7, 2, 0), none, some (.bipush 8, 2, 0), none, some (.lshl, 1, 0), some (.aload_n 1, 1, 0), some (.iload 4, 2, 0), none, some (.iconst 3, 1, 0), some (.iadd, 1, 0), some (.iload 10, 2, 0), none, some (.iadd, 1, 0), some (.iaload, 1, 0), some (.i2l, 1, 0), some (.lor, 1, 0), some (.lstore 7, 2, 0), none, some (.iinc 10 (-1), 3, 0), none, none, some (.goto (-26), 3, 0), none, none, some (.aload_n 0, 1, 0), some (.aload_n 1, 1, 0), some (.iload 4, 2, 0), none, some (.iconst 1, 1, 0), some (.iadd, 1, 0), some (.iaload, 1, 0), some (.iconst 1, 1, 0), some (.iload 9, 2, 0), none, some (.lload 7, 2, 0), none, some (.invokevirtual 67, 3, 98), none, none, some (.iload 4, 2, 0), none, some (.iconst 3, 1, 0), some (.iadd, 1, 0), some (.iload 9, 2, 0), none, some (.iadd, 1, 0), some (.istore 4, 2, 0), none, some (.goto 107, 3, 0), none, none, some (.iload 6, 2, 0), none, some (.iconst 2, 1, 0), some (.if_icmp .ne 30, 3, 0), none, none, some (.aload_n 0, 1, 0), some (.aload_n 1, 1, 0), some (.iload 4, 2, 0), none, some (.iconst 1, 1, 0), some (.iadd, 1, 0), some (.iaload, 1, 0), some (.iconst 2, 1, 0), some (.aload_n 1, 1, 0), some (.iload 4, 2, 0), none, some (.iconst 2, 1, 0), some (.iadd, 1, 0), some (.iaload, 1, 0), some (.lconst 0, 1, 0), some (.invokevirtual 67, 3, 98), none, none, some (.iload 4, 2, 0), none, some (.iconst 3, 1, 0), some (.iadd, 1, 0), some (.istore 4, 2, 0), none, some (.goto 74, 3, 0), none, none, some (.iload 6, 2, 0), none, some (.iconst 3, 1, 0), some (.if_icmp .ne 22, 3, 0), none, none, some (.aload_n 0, 1, 0), some (.aload_n 1, 1, 0), some (.iload 4, 2, 0), none, some (.iconst 1, 1, 0), some (.iadd, 1, 0), some (.iaload, 1, 0), some (.invokevirtual 71, 3, 99), none, none, some (.iload 4, 2, 0), none, some (.iconst 2, 1, 0), some (.iadd, 1, 0), some (.istore 4, 2, 0), none, some (.goto 49, 3, 0), none, none, some (.iload 6, 2, 0), none, some (.iconst 4, 1, 0), some (.if_icmp .ne 32, 3, 0), none, none, some (.aload_n 0, 1, 0), some (.aload_n 1, 1, 0), some (.iload 4, 2, 0), none, some (.iconst 1, 1, 0), some (.iadd, 1, 0), some (.iaload, 1, 0), some (.putfield 75, 3, 172), none, none, some (.aload_n 0, 1, 0), some (.aload_n 1, 1, 0), some (.iload 4, 2, 0), none, some (.iconst 2, 1, 0), some (.iadd, 1, 0), some (.iaload, 1, 0), some (.putfield 78, 3, 173), none, none, some (.iload 4, 2, 0), none, some (.iconst 3, 1, 0), some (.iadd, 1, 0), some (.istore 4, 2, 0), none, some (.goto 14, 3, 0), none, none, some (.aload_n 0, 1, 0), some (.iconst 0, 1, 0), some (.putfield 78, 3, 173), none, none, some (.iload 4, 2, 0), none, some (.iconst 1, 1, 0), some (.iadd, 1, 0), some (.istore 4, 2, 0), none, some (.iinc 5 1, 3, 0), none, none, some (.goto (-205), 3, 0), none, none, some (.return_, 1, 0)]
/-- FlashTreeModel.read (I)I -/
def K101 : List (Option Ent) := [some (.aload_n 0, 1, 0), some (.iload_n 1, 1, 0), some (.invokevirtual 81, 3, 96), none, none, some (.istore_n 2, 1, 0), some (.aload_n 0, 1, 0), some (.iconst 0, 1, 0), some (.putfield 60, 3, 171), none, none, some (.aload_n 0, 1, 0), some (.iconst 0, 1, 0), some (.putfield 78, 3, 173), none, none, some (.aload_n 0, 1, 0), some (.iconst 1, 1, 0), some (.putfield 84, 3, 174), none, none, some (.iload_n 2, 1, 0), some (.ifCond .lt 7, 3, 0), none, none, some (.iconst 1, 1, 0), some (.goto 4, 3, 0), none, none, some (.iconst 0, 1, 0), some (.istore_n 3, 1, 0), some (.iconst 0, 1, 0), some (.istore 4, 2, 0), none, some (.iload 4, 2, 0), none, some (.bipush 64, 2, 0), none, some (.if_icmp .ge 121, 3, 0), none, none, some (.iload_n 3, 1, 0), some (.ifCond .eq 117, 3, 0), none, none, some (.aload_n 0, 1, 0), some (.getfield 84, 3, 174), none, none, some (.bipush 64, 2, 0), none, some (.if_icmp .ge 20, 3, 0), none, none, some (.aload_n 0, 1, 0), some (.getfield 7, 3, 160), none, none, some (.bipush 64, 2, 0), none, some (.iload_n 2, 1, 0), some (.imul, 1, 0), some (.aload_n 0, 1, 0), some (.getfield 84, 3, 174), none, none, some (.iadd, 1, 0), some (.iaload, 1, 0), some (.goto 6, 3, 0), none, none, some (.sipush 255, 3, 0), none, none, some (.istore 5, 2, 0), none, some (.aload_n 0, 1, 0), some (.getfield 84, 3, 174), none, none, some (.iconst 1, 1, 0), some (.iadd, 1, 0), some (.iload 5, 2, 0), none, some (.iadd, 1, 0), some (.istore 6, 2, 0), none, some (.iload 6, 2, 0), none, some (.bipush 64, 2, 0), none, some (.if_icmp .ge 22, 3, 0), none, none, some (.aload_n 0, 1, 0), some (.getfield 7, 3, 160), none, none, some (.bipush 64, 2, 0), none, some (.iload_n 2, 1, 0), some (.imul, 1, 0), some (.iload 6, 2, 0), none, some (.iadd, 1, 0), some (.iaload, 1, 0), some (.ifCond .ne 7, 3, 0), none, none, some (.iconst 1, 1, 0), some (.goto 4, 3, 0), none, none, some (.iconst 0, 1, 0), some (.istore_n 3, 1, 0), some (.iload_n 3, 1, 0), some (.ifCond .eq 37, 3, 0), none, none, some (.aload_n 0, 1, 0), some (.aload_n 0, 1, 0), some (.getfield 7, 3, 160), none, none, some (.bipush 64, 2, 0), none, some (.iload_n 2, 1, 0), some (.imul, 1, 0), some (.aload_n 0, 1, 0), some (.getfield 84, 3, 174), none, none, some (.iadd, 1, 0), some (.iconst 1, 1, 0), some (.iadd, 1, 0), some (.bipush 64, 2, 0), none, some (.iload_n 2, 1, 0), some (.imul, 1, 0), some (.iload 6, 2, 0), none, some (.iadd, 1, 0), some (.invokevirtual 87, 3, 100), none, none, some (.aload_n 0, 1, 0), some (.iload 6, 2, 0), none, some (.iconst 1, 1, 0), some (.iadd, 1, 0), some (.putfield 84, 3, 174), none, none, some (.iinc 4 1, 3, 0), none, none, some (.goto (-122), 3, 0), none, none, some (.iload_n 2, 1, 0), some (.ireturn, 1, 0)]
/-- FlashTreeModel.record (II[II)Z -/
def K102 : List (Option Ent) := [some (.aload_n 0, 1, 0), some (.bipush 64, 2, 0), none, some (.iload_n 1, 1, 0), some (.imul, 1, 0), some (.iload_n 2, 1, 0), some (.iadd, 1, 0), some (.iload 4, 2, 0), none, some (.invokevirtual 91, 3, 93), none, none, some (.ifCond .ne 5, 3, 0), none, none, some (.iconst 0, 1, 0), some (.ireturn, 1, 0), some (.iconst 0, 1, 0), some (.istore 5, 2, 0), none, some (.iload 5, 2, 0), none, some (.iload 4, 2, 0), none, some (.if_icmp .ge 33, 3, 0), none, none, some (.aload_n 0, 1, 0), some (.bipush 64, 2, 0), none, some (.iload_n 1, 1, 0), some (.imul, 1, 0), some (.iload_n 2, 1, 0), some (.iadd, 1, 0), some (.iconst 1, 1, 0), some (.iadd, 1, 0), some (.iload 5, 2, 0), none, some (.iadd, 1, 0), some (.aload_n 3, 1, 0), some (.iload 5, 2, 0), none, some (.iaload, 1, 0), some (.invokevirtual 91, 3, 93), none, none, some (.ifCond .ne 5, 3, 0), none, none, some (.iconst 0, 1, 0), some (.ireturn, 1, 0), some (.iinc 5 1, 3, 0), none, none, some (.goto (-34), 3, 0), none, none, some (.aload_n 0, 1, 0), some (.bipush 64, 2, 0), none, some (.iload_n 1, 1, 0), some (.imul, 1, 0), some (.iload_n 2, 1, 0), some (.iadd, 1, 0), some (.iconst 1, 1, 0), some (.iadd, 1, 0), some (.iload 4, 2, 0), none, some (.iadd, 1, 0), some (.iconst 0, 1, 0), some (.invokevirtual 91, 3, 93), none, none, some (.ireturn, 1, 0)]
/-- FlashTreeModel.add (I)V -/
def K103 : List (Option Ent) := [some (.aload_n 0, 1, 0), some (.getfield 32, 3, 177), none, none, some (.aload_n 0, 1, 0), some (.getfield 95, 3, 178), none, none, some (.iload_n 1, 1, 0), some (.iastore, 1, 0), some (.aload_n 0, 1, 0), some (.aload_n 0, 1, 0), some (.getfield 95, 3, 178), none, none, some (.iconst 1, 1, 0), some (.iadd, 1, 0), some (.putfield 95, 3, 178), none, none, some (.return_, 1, 0)]
/-- FlashTreeModel.writeAnew (I)Z -/
def K104 : List (Option Ent) := [some (.aload_n 0, 1, 0), some (.iconst 0, 1, 0), some (.putfield 95, 3, 178), none, none, some (.iconst 0, 1, 0), some (.istore_n 2, 1, 0), some (.iload_n 2, 1, 0), some (.aload_n 0, 1, 0), some (.getfield 60, 3, 171), none, none, some (.if_icmp .ge 87, 3, 0), none, none, some (.aload_n 0, 1, 0), some (.aload_n 0, 1, 0), some (.getfield 19, 3, 168), none, none, some (.iload_n 2, 1, 0), some (.iaload, 1, 0), some (.invokevirtual 98, 3, 103), none, none, some (.aload_n 0, 1, 0), some (.aload_n 0, 1, 0), some (.getfield 16, 3, 167), none, none, some (.iload_n 2, 1, 0), some (.iaload, 1, 0), some (.invokevirtual 98, 3, 103), none, none, some (.aload_n 0, 1, 0), some (.aload_n 0, 1, 0), some (.getfield 22, 3, 169), none, none, some (.iload_n 2, 1, 0), some (.iaload, 1, 0), some (.invokevirtual 98, 3, 103), none, none, some (.iconst 0, 1, 0), some (.istore_n 3, 1, 0), some (.iload_n 3, 1, 0), some (.aload_n 0, 1, 0), some (.getfield 22, 3, 169), none, none, some (.iload_n 2, 1, 0), some (.iaload, 1, 0), some (.if_icmp .ge 39, 3, 0), none, none, some (.aload_n 0, 1, 0), some (.getfield 19, 3, 168), none, none, some (.iload_n 2, 1, 0), some (.iaload, 1, 0), some (.iconst 1, 1, 0), some (.if_icmp .ne 29, 3, 0), none, none, some (.aload_n 0, 1, 0), some (.aload_n 0, 1, 0), some (.getfield 25, 3, 170), none, none, some (.iload_n 2, 1, 0), some (.laload, 1, 0), some (.bipush 8, 2, 0), none, some (.iload_n 3, 1, 0), some (.imul, 1, 0), some (.lshr, 1, 0), some (.l2i, 1, 0), some (.sipush 255, 3, 0), none, none, some (.iand, 1, 0), some (.invokevirtual 98, 3, 103), none, none, some (.iinc 3 1, 3, 0), none, none, some (.goto (-43), 3, 0), none, none, some (.iinc 2 1, 3, 0), none, none, some (.goto (-89), 3, 0), none, none, some (.aload_n 0, 1, 0), some (.getfield 78, 3, 173), none, none, some (.ifCond .le 24, 3, 0), none, none, some (.aload_n 0, 1, 0), some (.iconst 4, 1, 0), some (.invokevirtual 98, 3, 103), none, none, some (.aload_n 0, 1, 0), some (.aload_n 0, 1, 0), some (.getfield 75, 3, 172), none, none, some (.invokevirtual 98, 3, 103), none, none, some (.aload_n 0, 1, 0), some (.aload_n 0, 1, 0), some (.getfield 78, 3, 173), none, none, some (.invokevirtual 98, 3, 103), none, none, some (.iload_n 1, 1, 0), some (.iconst 1, 1, 0), some (.ixor, 1, 0), some (.istore_n 2, 1, 0), some (.aload_n 0, 1, 0), some (.getfield 7, 3, 160), none, none, some (.bipush 64, 2, 0), none, some (.iload_n 1, 1, 0), some (.imul, 1, 0), some (.iaload, 1, 0), some (.iconst 1, 1, 0), some (.iadd, 1, 0), some (.istore_n 3, 1, 0), some (.aload_n 0, 1, 0), some (.iload_n 2, 1, 0), some (.invokevirtual 101, 3, 94), none, none, some (.ifCond .eq 36, 3, 0), none, none, some (.aload_n 0, 1, 0), some (.bipush 64, 2, 0), none, some (.iload_n 2, 1, 0), some (.imul, 1, 0), some (.iload_n 3, 1, 0), some (.invokevirtual 91, 3, 93), none, none, some (.ifCond .eq 24, 3, 0), none, none, some (.aload_n 0, 1, 0), some (.iload_n 2, 1, 0), some (.iconst 1, 1, 0), some (.aload_n 0, 1, 0), some (.getfield 32, 3, 177), none, none, some (.aload_n 0, 1, 0), some (.getfield 95, 3, 178), none, none, some (.invokevirtual 104, 3, 102), none, none, some (.ifCond .eq 7, 3, 0), none, none, some (.iconst 1, 1, 0), some (.goto 4, 3, 0), none, none, some (.iconst 0, 1, 0), some (.ireturn, 1, 0)]
/-- FlashTreeModel.commit (I)Z -/
def K105 : List (Option Ent) := [some (.aload_n 0, 1, 0), some (.iload_n 1, 1, 0), some (.invokevirtual 108, 3, 101), none, none, some (.istore_n 2, 1, 0), some (.iload_n 2, 1, 0), some (.ifCond .ge 5, 3, 0), none, none, some (.iconst 0, 1, 0), some (.ireturn, 1, 0), some (.aload_n 0, 1, 0), some (.getfield 84, 3, 174), none, none, some (.aload_n 0, 1, 0), some (.getfield 111, 3, 176), none, none, some (.iadd, 1, 0), some (.iconst 2, 1, 0), some (.iadd, 1, 0), some (.bipush 64, 2, 0), none, some (.if_icmp .gt 41, 3, 0), none, none, some (.aload_n 0, 1, 0), some (.getfield 7, 3, 160), none, none, some (.bipush 64, 2, 0), none, some (.iload_n 2, 1, 0), some (.imul, 1, 0), some (.aload_n 0, 1, 0), some (.getfield 84, 3, 174), none, none, some (.iadd, 1, 0), some (.iaload, 1, 0), some (.sipush 255, 3, 0), none, none, some (.if_icmp .ne 21, 3, 0), none, none, some (.aload_n 0, 1, 0), some (.iload_n 2, 1, 0), some (.aload_n 0, 1, 0), some (.getfield 84, 3, 174), none, none, some (.aload_n 0, 1, 0), some (.getfield 29, 3, 175), none, none, some (.aload_n 0, 1, 0), some (.getfield 111, 3, 176), none, none, some (.invokevirtual 104, 3, 102), none, none, some (.ireturn, 1, 0), some (.aload_n 0, 1, 0), some (.aload_n 0, 1, 0), some (.getfield 29, 3, 175), none, none, some (.iconst 0, 1, 0), some (.aload_n 0, 1, 0), some (.getfield 111, 3, 176), none, none, some (.invokevirtual 87, 3, 100), none, none, some (.aload_n 0, 1, 0), some (.iload_n 2, 1, 0), some (.invokevirtual 114, 3, 104), none, none, some (.ireturn, 1, 0)]
/-- FlashTreeModel.beginPair (I)Z -/
def K106 : List (Option Ent) := [some (.aload_n 0, 1, 0), some (.iload_n 1, 1, 0), some (.invokevirtual 108, 3, 101), none, none, some (.istore_n 2, 1, 0), some (.iload_n 2, 1, 0), some (.ifCond .ge 48, 3, 0), none, none, some (.aload_n 0, 1, 0), some (.iconst 2, 1, 0), some (.iload_n 1, 1, 0), some (.imul, 1, 0), some (.invokevirtual 101, 3, 94), none, none, some (.ifCond .eq 36, 3, 0), none, none, some (.aload_n 0, 1, 0), some (.sipush 128, 3, 0), none, none, some (.iload_n 1, 1, 0), some (.imul, 1, 0), some (.iconst 0, 1, 0), some (.invokevirtual 91, 3, 93), none, none, some (.ifCond .eq 23, 3, 0), none, none, some (.aload_n 0, 1, 0), some (.iconst 2, 1, 0), some (.iload_n 1, 1, 0), some (.imul, 1, 0), some (.iconst 1, 1, 0), some (.aload_n 0, 1, 0), some (.getfield 29, 3, 175), none, none, some (.iconst 0, 1, 0), some (.invokevirtual 104, 3, 102), none, none, some (.ifCond .eq 7, 3, 0), none, none, some (.iconst 1, 1, 0), some (.goto 4, 3, 0), none, none, some (.iconst 0, 1, 0), some (.ireturn, 1, 0), some (.aload_n 0, 1, 0), some (.iconst 0, 1, 0), some (.putfield 60, 3, 171), none, none, some (.aload_n 0, 1, 0), some (.iconst 0, 1, 0), some (.putfield 78, 3, 173), none, none, some (.aload_n 0, 1, 0), some (.iload_n 2, 1, 0), some (.invokevirtual 114, 3, 104), none, none, some (.ireturn, 1, 0)]
/-- FlashTreeModel.say (I)V -/
def K107 : List (Option Ent) := [some (.aload_n 0, 1, 0), some (.getfield 29, 3, 175), none, none, some (.aload_n 0, 1, 0), some (.getfield 111, 3, 176), none, none, some (.iload_n 1, 1, 0), some (.iastore, 1, 0), some (.aload_n 0, 1, 0), some (.aload_n 0, 1, 0), some (.getfield 111, 3, 176), none, none, some (.iconst 1, 1, 0), some (.iadd, 1, 0), some (.putfield 111, 3, 176), none, none, some (.return_, 1, 0)]
/-- FlashTreeModel.from (I)I -/
def K108 : List (Option Ent) := [some (.iconst 1, 1, 0), some (.iload_n 1, 1, 0), some (.ishl, 1, 0), some (.istore_n 2, 1, 0), some (.iconst 0, 1, 0), some (.istore_n 3, 1, 0), some (.iload_n 3, 1, 0), some (.bipush 8, 2, 0), none, some (.if_icmp .ge 89, 3, 0), none, none, some (.iconst 0, 1, 0), some (.istore 4, 2, 0), none, some (.iload 4, 2, 0), none, some (.bipush 8, 2, 0), none, some (.if_icmp .ge 73, 3, 0), none, none, some (.iload_n 2, 1, 0), some (.iload 4, 2, 0), none, some (.ishr, 1, 0), some (.iconst 1, 1, 0), some (.iand, 1, 0), some (.iconst 1, 1, 0), some (.if_icmp .ne 57, 3, 0), none, none, some (.aload_n 0, 1, 0), some (.iload 4, 2, 0), none, some (.invokevirtual 108, 3, 101), none, none, some (.istore 5, 2, 0), none, some (.iconst 0, 1, 0), some (.istore 6, 2, 0), none, some (.iload 6, 2, 0), none, some (.aload_n 0, 1, 0), some (.getfield 60, 3, 171), none, none, some (.if_icmp .ge 37, 3, 0), none, none, some (.iload 5, 2, 0), none, some (.ifCond .lt 32, 3, 0), none, none, some (.aload_n 0, 1, 0), some (.getfield 19, 3, 168), none, none, some (.iload 6, 2, 0), none, some (.iaload, 1, 0), some (.iconst 2, 1, 0), some (.if_icmp .ne 15, 3, 0), none, none, some (.iload_n 2, 1, 0), some (.iconst 1, 1, 0), some (.aload_n 0, 1, 0), some (.getfield 22, 3, 169), none, none, some (.iload 6, 2, 0), none, some (.iaload, 1, 0), some (.ishl, 1, 0), some (.ior, 1, 0), some (.istore_n 2, 1, 0), some (.iinc 6 1, 3, 0), none, none, some (.goto (-40), 3, 0), none, none, some (.iinc 4 1, 3, 0), none, none, some (.goto (-74), 3, 0), none, none, some (.iinc 3 1, 3, 0), none, none, some (.goto (-89), 3, 0), none, none, some (.iload_n 2, 1, 0), some (.ireturn, 1, 0)]
/-- FlashTreeModel.there (I)Z -/
def K109 : List (Option Ent) := [some (.iload_n 1, 1, 0), some (.ifCond .lt 26, 3, 0), none, none, some (.iload_n 1, 1, 0), some (.bipush 8, 2, 0), none, some (.if_icmp .ge 20, 3, 0), none, none, some (.aload_n 0, 1, 0), some (.iconst 0, 1, 0), some (.invokevirtual 117, 3, 108), none, none, some (.iload_n 1, 1, 0), some (.ishr, 1, 0), some (.iconst 1, 1, 0), some (.iand, 1, 0), some (.iconst 1, 1, 0), some (.if_icmp .ne 7, 3, 0), none, none, some (.iconst 1, 1, 0), some (.goto 4, 3, 0), none, none, some (.iconst 0, 1, 0), some (.ireturn, 1, 0)]
/-- FlashTreeModel.ready ()I -/
def K110 : List (Option Ent) := [some (.aload_n 0, 1, 0), some (.getfield 43, 3, 162), none, none, some (.ifCond .eq 8, 3, 0), none, none, some (.bipush (-9), 2, 0), none, some (.goto 16, 3, 0), none, none, some (.aload_n 0, 1, 0), some (.getfield 46, 3, 163), none, none, some (.ifCond .eq 7, 3, 0), none, none, some (.iconst 0, 1, 0), some (.goto 5, 3, 0), none, none, some (.bipush (-8), 2, 0), none, some (.ireturn, 1, 0)]
/-- FlashTreeModel.done (ZI)I -/
def K111 : List (Option Ent) := [some (.iload_n 1, 1, 0), some (.ifCond .eq 7, 3, 0), none, none, some (.iload_n 2, 1, 0), some (.goto 5, 3, 0), none, none, some (.bipush (-9), 2, 0), none, some (.ireturn, 1, 0)]
/-- FlashTreeModel.format ()I -/
def K112 : List (Option Ent) := [some (.aload_n 0, 1, 0), some (.getfield 43, 3, 162), none, none, some (.ifCond .eq 6, 3, 0), none, none, some (.bipush (-9), 2, 0), none, some (.ireturn, 1, 0), some (.aload_n 0, 1, 0), some (.iconst 0, 1, 0), some (.putfield 46, 3, 163), none, none, some (.aload_n 0, 1, 0), some (.aload_n 0, 1, 0), some (.iconst 0, 1, 0), some (.invokevirtual 120, 3, 106), none, none, some (.iconst 0, 1, 0), some (.invokevirtual 123, 3, 111), none, none, some (.ireturn, 1, 0)]
/-- FlashTreeModel.mount ()I -/
def K113 : List (Option Ent) := [some (.aload_n 0, 1, 0), some (.getfield 43, 3, 162), none, none, some (.ifCond .eq 6, 3, 0), none, none, some (.bipush (-9), 2, 0), none, some (.ireturn, 1, 0), some (.aload_n 0, 1, 0), some (.iconst 0, 1, 0), some (.putfield 46, 3, 163), none, none, some (.aload_n 0, 1, 0), some (.iconst 0, 1, 0), some (.invokevirtual 81, 3, 96), none, none, some (.ifCond .ge 6, 3, 0), none, none, some (.bipush (-7), 2, 0), none, some (.ireturn, 1, 0), some (.aload_n 0, 1, 0), some (.iconst 0, 1, 0), some (.invokevirtual 117, 3, 108), none, none, some (.istore_n 1, 1, 0), some (.iconst 0, 1, 0), some (.istore_n 2, 1, 0), some (.iload_n 2, 1, 0), some (.bipush 8, 2, 0), none, some (.if_icmp .ge 146, 3, 0), none, none, some (.iload_n 1, 1, 0), some (.iload_n 2, 1, 0), some (.ishr, 1, 0), some (.iconst 1, 1, 0), some (.iand, 1, 0), some (.iconst 1, 1, 0), some (.if_icmp .ne 131, 3, 0), none, none, some (.aload_n 0, 1, 0), some (.iload_n 2, 1, 0), some (.invokevirtual 108, 3, 101), none, none, some (.istore_n 3, 1, 0), some (.aload_n 0, 1, 0), some (.getfield 75, 3, 172), none, none, some (.istore 4, 2, 0), none, some (.aload_n 0, 1, 0), some (.getfield 78, 3, 173), none, none, some (.istore 5, 2, 0), none, some (.iload 5, 2, 0), none, some (.ifCond .le 108, 3, 0), none, none, some (.iload_n 3, 1, 0), some (.ifCond .lt 104, 3, 0), none, none, some (.iload 4, 2, 0), none, some (.ifCond .lt 42, 3, 0), none, none, some (.iload 4, 2, 0), none, some (.bipush 8, 2, 0), none, some (.if_icmp .ge 35, 3, 0), none, none, some (.iload_n 1, 1, 0), some (.iload 4, 2, 0), none, some (.ishr, 1, 0), some (.iconst 1, 1, 0), some (.iand, 1, 0), some (.iconst 1, 1, 0), some (.if_icmp .ne 25, 3, 0), none, none, some (.aload_n 0, 1, 0), some (.iload 4, 2, 0), none, some (.invokevirtual 108, 3, 101), none, none, some (.ifCond .lt 16, 3, 0), none, none, some (.aload_n 0, 1, 0), some (.iload 5, 2, 0), none, some (.invokevirtual 63, 3, 97), none, none, some (.ifCond .lt 7, 3, 0), none, none, some (.iconst 1, 1, 0), some (.goto 4, 3, 0), none, none, some (.iconst 0, 1, 0), some (.istore 6, 2, 0), none, some (.iload 6, 2, 0), none, some (.ifCond .eq 31, 3, 0), none, none, some (.aload_n 0, 1, 0), some (.iconst 0, 1, 0), some (.putfield 111, 3, 176), none, none, some (.aload_n 0, 1, 0), some (.iconst 3, 1, 0), some (.invokevirtual 127, 3, 107), none, none, some (.aload_n 0, 1, 0), some (.iload 5, 2, 0), none, some (.invokevirtual 127, 3, 107), none, none, some (.aload_n 0, 1, 0), some (.iload 4, 2, 0), none, some (.invokevirtual 130, 3, 105), none, none, some (.ifCond .ne 6, 3, 0), none, none, some (.bipush (-9), 2, 0), none, some (.ireturn, 1, 0), some (.aload_n 0, 1, 0), some (.iconst 0, 1, 0), some (.putfield 111, 3, 176), none, none, some (.aload_n 0, 1, 0), some (.iconst 5, 1, 0), some (.invokevirtual 127, 3, 107), none, none, some (.aload_n 0, 1, 0), some (.iload_n 2, 1, 0), some (.invokevirtual 130, 3, 105), none, none, some (.ifCond .ne 6, 3, 0), none, none, some (.bipush (-9), 2, 0), none, some (.ireturn, 1, 0), some (.iinc 2 1, 3, 0), none, none, some (.goto (-146), 3, 0), none, none, some (.aload_n 0, 1, 0), some (.iconst 1, 1, 0), some (.putfield 46, 3, 163), none, none, some (.iconst 0, 1, 0), some (.ireturn, 1, 0)]
/-- FlashTreeModel.named (I)Z -/
def K114 : List (Option Ent) := [some (.iload_n 0, 1, 0), some (.iconst 1, 1, 0), some (.if_icmp .lt 13, 3, 0), none, none, some (.iload_n 0, 1, 0), some (.bipush 99, 2, 0), none, some (.if_icmp .gt 7, 3, 0), none, none, some (.iconst 1, 1, 0), some (.goto 4, 3, 0), none, none, some (.iconst 0, 1, 0), some (.ireturn, 1, 0)]
/-- FlashTreeModel.make (II)I -/
def K115 : List (Option Ent) := [some (.aload_n 0, 1, 0), some (.invokevirtual 133, 3, 110), none, none, some (.ifCond .ge 8, 3, 0), none, none, some (.aload_n 0, 1, 0), some (.invokevirtual 133, 3, 110), none, none, some (.ireturn, 1, 0), some (.aload_n 0, 1, 0), some (.iload_n 1, 1, 0), some (.invokevirtual 137, 3, 109), none, none, some (.ifCond .eq 10, 3, 0), none, none, some (.iload_n 2, 1, 0), some (.invokestatic 140, 3, 114), none, none, some (.ifCond .ne 5, 3, 0), none, none, some (.iconst (-1), 1, 0), some (.ireturn, 1, 0), some (.aload_n 0, 1, 0), some (.iload_n 1, 1, 0), some (.invokevirtual 108, 3, 101), none, none, some (.istore_n 3, 1, 0), some (.aload_n 0, 1, 0), some (.iload_n 2, 1, 0), some (.invokevirtual 63, 3, 97), none, none, some (.ifCond .lt 6, 3, 0), none, none, some (.bipush (-2), 2, 0), none, some (.ireturn, 1, 0), some (.aload_n 0, 1, 0), some (.getfield 60, 3, 171), none, none, some (.iconst 4, 1, 0), some (.if_icmp .ne 6, 3, 0), none, none, some (.bipush (-3), 2, 0), none, some (.ireturn, 1, 0), some (.aload_n 0, 1, 0), some (.iconst 0, 1, 0), some (.invokevirtual 117, 3, 108), none, none, some (.istore 4, 2, 0), none, some (.iconst 0, 1, 0), some (.istore 5, 2, 0), none, some (.bipush 7, 2, 0), none, some (.istore 6, 2, 0), none, some (.iload 6, 2, 0), none, some (.ifCond .le 23, 3, 0), none, none, some (.iload 4, 2, 0), none, some (.iload 6, 2, 0), none, some (.ishr, 1, 0), some (.iconst 1, 1, 0), some (.iand, 1, 0), some (.ifCond .ne 7, 3, 0), none, none, some (.iload 6, 2, 0), none, some (.istore 5, 2, 0), none, some (.iinc 6 (-1), 3, 0), none, none, some (.goto (-22), 3, 0), none, none, some (.iload 5, 2, 0), none, some (.ifCond .ne 6, 3, 0), none, none, some (.bipush (-4), 2, 0), none, some (.ireturn, 1, 0), some (.aload_n 0, 1, 0), some (.iload 5, 2, 0), none, some (.invokevirtual 120, 3, 106), none, none, some (.ifCond .ne 6, 3, 0), none, none, some (.bipush (-9), 2, 0), none, some (.ireturn, 1, 0), some (.aload_n 0, 1, 0), some (.iconst 0, 1, 0), some (.putfield 111, 3, 176), none, none, some (.aload_n 0, 1, 0), some (.iconst 2, 1, 0), some (.invokevirtual 127, 3, 107), none, none, some (.aload_n 0, 1, 0), some (.iload_n 2, 1, 0), some (.invokevirtual 127, 3, 107), none, none, some (.aload_n 0, 1, 0), some (.iload 5, 2, 0), none, some (.invokevirtual 127, 3, 107), none, none, some (.aload_n 0, 1, 0), some (.aload_n 0, 1, 0), some (.iload_n 1, 1, 0), some (.invokevirtual 130, 3, 105), none, none, some (.iload 5, 2, 0), none, some (.invokevirtual 123, 3, 111), none, none, some (.ireturn, 1, 0)]
/-- FlashTreeModel.write (IIIJ)I -/
def K116 : List (Option Ent) := [some (.aload_n 0, 1, 0), some (.invokevirtual 133, 3, 110), none, none, some (.ifCond .ge 8, 3, 0), none, none, some (.aload_n 0, 1, 0), some (.invokevirtual 133, 3, 110), none, none, some (.ireturn, 1, 0), some (.aload_n 0, 1, 0), some (.iload_n 1, 1, 0), some (.invokevirtual 137, 3, 109), none, none, some (.ifCond .eq 20, 3, 0), none, none, some (.iload_n 2, 1, 0), some (.invokestatic 140, 3, 114), none, none, some (.ifCond .eq 13, 3, 0), none, none, some (.iload_n 3, 1, 0), some (.ifCond .lt 9, 3, 0), none, none, some (.iload_n 3, 1, 0), some (.bipush 6, 2, 0), none, some (.if_icmp .le 5, 3, 0), none, none, some (.iconst (-1), 1, 0), some (.ireturn, 1, 0), some (.aload_n 0, 1, 0), some (.iload_n 1, 1, 0), some (.invokevirtual 108, 3, 101), none, none, some (.istore 6, 2, 0), none, some (.aload_n 0, 1, 0), some (.iload_n 2, 1, 0), some (.invokevirtual 63, 3, 97), none, none, some (.istore 7, 2, 0), none, some (.iload 7, 2, 0), none, some (.ifCond .lt 17, 3, 0), none, none, some (.aload_n 0, 1, 0), some (.getfield 19, 3, 168), none, none, some (.iload 7, 2, 0), none, some (.iaload, 1, 0), some (.iconst 2, 1, 0), some (.if_icmp .ne 6, 3, 0), none, none, some (.bipush (-2), 2, 0), none, some (.ireturn, 1, 0), some (.iload 7, 2, 0), none, some (.ifCond .ge 14, 3, 0), none, none, some (.aload_n 0, 1, 0), some (.getfield 60, 3, 171), none, none, some (.iconst 4, 1, 0), some (.if_icmp .ne 6, 3, 0), none, none, some (.bipush (-3), 2, 0), none, some (.ireturn, 1, 0), some (.aload_n 0, 1, 0), some (.iconst 0, 1, 0), some (.putfield 111, 3, 176), none, none, some (.aload_n 0, 1, 0), some (.iconst 1, 1, 0), some (.invokevirtual 127, 3, 107), none, none, some (.aload_n 0, 1, 0), some (.iload_n 2, 1, 0), some (.invokevirtual 127, 3, 107), none, none, some (.aload_n 0, 1, 0), some (.iload_n 3, 1, 0), some (.invokevirtual 127, 3, 107), none, none, some (.iconst 0, 1, 0), some (.istore 8, 2, 0), none, some (.iload 8, 2, 0), none, some (.iload_n 3, 1, 0), some (.if_icmp .ge 26, 3, 0), none, none, some (.aload_n 0, 1, 0), some (.lload 4, 2, 0), none, some (.bipush 8, 2, 0), none, some (.iload 8, 2, 0), none, some (.imul, 1, 0), some (.lshr, 1, 0), some (.l2i, 1, 0), some (.sipush 255, 3, 0), none, none, some (.iand, 1, 0), some (.invokevirtual 127, 3, 107), none, none, some (.iinc 8 1, 3, 0), none, none, some (.goto (-26), 3, 0), none, none, some (.aload_n 0, 1, 0), some (.aload_n 0, 1, 0), some (.iload_n 1, 1, 0), some (.invokevirtual 130, 3, 105), none, none, some (.iconst 0, 1, 0), some (.invokevirtual 123, 3, 111), none, none, some (.ireturn, 1, 0)]
/-- FlashTreeModel.remove (II)I -/
def K117 : List (Option Ent) := [some (.aload_n 0, 1, 0), some (.invokevirtual 133, 3, 110), none, none, some (.ifCond .ge 8, 3, 0), none, none, some (.aload_n 0, 1, 0), some (.invokevirtual 133, 3, 110), none, none, some (.ireturn, 1, 0), some (.aload_n 0, 1, 0), some (.iload_n 1, 1, 0), some (.invokevirtual 137, 3, 109), none, none, some (.ifCond .ne 5, 3, 0), none, none, some (.iconst (-1), 1, 0), some (.ireturn, 1, 0), some (.aload_n 0, 1, 0), some (.iload_n 1, 1, 0), some (.invokevirtual 108, 3, 101), none, none, some (.istore_n 3, 1, 0), some (.aload_n 0, 1, 0), some (.iload_n 2, 1, 0), some (.invokevirtual 63, 3, 97), none, none, some (.istore 4, 2, 0), none, some (.iload 4, 2, 0), none, some (.ifCond .ge 5, 3, 0), none, none, some (.iconst (-1), 1, 0), some (.ireturn, 1, 0), some (.aload_n 0, 1, 0), some (.getfield 19, 3, 168), none, none, some (.iload 4, 2, 0), none, some (.iaload, 1, 0), some (.iconst 2, 1, 0), some (.if_icmp .ne 25, 3, 0), none, none, some (.aload_n 0, 1, 0), some (.aload_n 0, 1, 0), some (.getfield 22, 3, 169), none, none, some (.iload 4, 2, 0), none, some (.iaload, 1, 0), some (.invokevirtual 108, 3, 101), none, none, some (.istore_n 3, 1, 0), some (.aload_n 0, 1, 0), some (.getfield 60, 3, 171), none, none, some (.ifCond .le 6, 3, 0), none, none, some (.bipush (-5), 2, 0), none, some (.ireturn, 1, 0), some (.aload_n 0, 1, 0), some (.iconst 0, 1, 0), some (.putfield 111, 3, 176), none, none, some (.aload_n 0, 1, 0), some (.iconst 3, 1, 0), some (.invokevirtual 127, 3, 107), none, none, some (.aload_n 0, 1, 0), some (.iload_n 2, 1, 0), some (.invokevirtual 127, 3, 107), none, none, some (.aload_n 0, 1, 0), some (.aload_n 0, 1, 0), some (.iload_n 1, 1, 0), some (.invokevirtual 130, 3, 105), none, none, some (.iconst 0, 1, 0), some (.invokevirtual 123, 3, 111), none, none, some (.ireturn, 1, 0)]
/-- FlashTreeModel.sayEntry (IIIJ)V -/
def K118 : List (Option Ent) := [some (.aload_n 0, 1, 0), some (.iload_n 1, 1, 0), some (.invokevirtual 127, 3, 107), none, none, some (.aload_n 0, 1, 0), some (.iload_n 2, 1, 0), some (.invokevirtual 127, 3, 107), none, none, some (.aload_n 0, 1, 0), some (.iload_n 3, 1, 0), some (.invokevirtual 127, 3, 107), none, none, some (.iconst 0, 1, 0), some (.istore 6, 2, 0), none, some (.iload 6, 2, 0), none, some (.iload_n 3, 1, 0), some (.if_icmp .ge 31, 3, 0), none, none, some (.iload_n 1, 1, 0), some (.iconst 1, 1, 0), some (.if_icmp .ne 26, 3, 0), none, none, some (.aload_n 0, 1, 0), some (.lload 4, 2, 0), none, some (.bipush 8, 2, 0), none, some (.iload 6, 2, 0), none, some (.imul, 1, 0), some (.lshr, 1, 0), some (.l2i, 1, 0), some (.sipush 255, 3, 0), none, none, some (.iand, 1, 0), some (.invokevirtual 127, 3, 107), none, none, some (.iinc 6 1, 3, 0), none, none, some (.goto (-31), 3, 0), none, none, some (.return_, 1, 0)]
/-- FlashTreeModel.rename (IIII)I -/
def K119 : List (Option Ent) := [some (.aload_n 0, 1, 0), some (.invokevirtual 133, 3, 110), none, none, some (.ifCond .ge 8, 3, 0), none, none, some (.aload_n 0, 1, 0), some (.invokevirtual 133, 3, 110), none, none, some (.ireturn, 1, 0), some (.aload_n 0, 1, 0), some (.iload_n 1, 1, 0), some (.invokevirtual 137, 3, 109), none, none, some (.ifCond .eq 19, 3, 0), none, none, some (.aload_n 0, 1, 0), some (.iload_n 3, 1, 0), some (.invokevirtual 137, 3, 109), none, none, some (.ifCond .eq 11, 3, 0), none, none, some (.iload 4, 2, 0), none, some (.invokestatic 140, 3, 114), none, none, some (.ifCond .ne 5, 3, 0), none, none, some (.iconst (-1), 1, 0), some (.ireturn, 1, 0), some (.aload_n 0, 1, 0), some (.iload_n 1, 1, 0), some (.invokevirtual 108, 3, 101), none, none, some (.istore 5, 2, 0), none, some (.aload_n 0, 1, 0), some (.iload_n 2, 1, 0), some (.invokevirtual 63, 3, 97), none, none, some (.istore 6, 2, 0), none, some (.iload 6, 2, 0), none, some (.ifCond .ge 5, 3, 0), none, none, some (.iconst (-1), 1, 0), some (.ireturn, 1, 0), some (.aload_n 0, 1, 0), some (.getfield 19, 3, 168), none, none, some (.iload 6, 2, 0), none, some (.iaload, 1, 0), some (.istore 7, 2, 0), none, some (.aload_n 0, 1, 0), some (.getfield 22, 3, 169), none, none, some (.iload 6, 2, 0), none, some (.iaload, 1, 0), some (.istore 8, 2, 0), none, some (.aload_n 0, 1, 0), some (.getfield 25, 3, 170), none, none, some (.iload 6, 2, 0), none, some (.laload, 1, 0), some (.lstore 9, 2, 0), none, some (.iload_n 1, 1, 0), some (.iload_n 3, 1, 0), some (.if_icmp .ne 11, 3, 0), none, none, some (.iload_n 2, 1, 0), some (.iload 4, 2, 0), none, some (.if_icmp .ne 5, 3, 0), none, none, some (.iconst 0, 1, 0), some (.ireturn, 1, 0), some (.aload_n 0, 1, 0), some (.iload_n 3, 1, 0), some (.invokevirtual 108, 3, 101), none, none, some (.istore 5, 2, 0), none, some (.aload_n 0, 1, 0), some (.iload 4, 2, 0), none, some (.invokevirtual 63, 3, 97), none, none, some (.istore 11, 2, 0), none, some (.iload 11, 2, 0), none, some (.ifCond .lt 23, 3, 0), none, none, some (.iload 7, 2, 0), none, some (.iconst 2, 1, 0), some (.if_icmp .eq 14, 3, 0), none, none, some (.aload_n 0, 1, 0), some (.getfield 19, 3, 168), none, none, some (.iload 11, 2, 0), none, some (.iaload, 1, 0), some (.iconst 2, 1, 0), some (.if_icmp .ne 6, 3, 0), none, none, some (.bipush (-2), 2, 0), none, some (.ireturn, 1, 0), some (.iload 11, 2, 0), none, some (.ifCond .ge 19, 3, 0), none, none, some (.iload_n 1, 1, 0), some (.iload_n 3, 1, 0), some (.if_icmp .eq 14, 3, 0), none, none, some (.aload_n 0, 1, 0), some (.getfield 60, 3, 171), none, none, some (.iconst 4, 1, 0), some (.if_icmp .ne 6, 3, 0), none, none, some (.bipush (-3), 2, 0), none, some (.ireturn, 1, 0), some (.iload 7, 2, 0), none, some (.iconst 2, 1, 0), some (.if_icmp .ne 20, 3, 0), none, none, some (.aload_n 0, 1, 0), some (.iload 8, 2, 0), none, some (.invokevirtual 117, 3, 108), none, none, some (.iload_n 3, 1, 0), some (.ishr, 1, 0), some (.iconst 1, 1, 0), some (.iand, 1, 0), some (.iconst 1, 1, 0), some (.if_icmp .ne 6, 3, 0), none, none, some (.bipush (-6), 2, 0), none, some (.ireturn, 1, 0), some (.aload_n 0, 1, 0), some (.iconst 0, 1, 0), some (.putfield 111, 3, 176), none, none, some (.iload_n 1, 1, 0), some (.iload_n 3, 1, 0), some (.if_icmp .ne 36, 3, 0), none, none, some (.aload_n 0, 1, 0), some (.iconst 3, 1, 0), some (.invokevirtual 127, 3, 107), none, none, some (.aload_n 0, 1, 0), some (.iload_n 2, 1, 0), some (.invokevirtual 127, 3, 107), none, none, some (.aload_n 0, 1, 0), some (.iload 7, 2, 0), none, some (.iload 4, 2, 0), none, some (.iload 8, 2, 0), none, some (.lload 9, 2, 0), none, some (.invokevirtual 143, 3, 118), none, none, some (.aload_n 0, 1, 0), some (.aload_n 0, 1, 0), some (.iload_n 1, 1, 0), some (.invokevirtual 130, 3, 105), none, none, some (.iconst 0, 1, 0), some (.invokevirtual 123, 3, 111), none, none, some (.ireturn, 1, 0), some (.aload_n 0, 1, 0), some (.iload 7, 2, 0), none, some (.iload 4, 2, 0), none, some (.iload 8, 2, 0), none, some (.lload 9, 2, 0), none, some (.invokevirtual 143, 3, 118), none, none, some (.aload_n 0, 1, 0), some (.iconst 4, 1, 0), some (.invokevirtual 127, 3, 107), none, none, some (.aload_n 0, 1, 0), some (.iload_n 1, 1, 0), some (.invokevirtual 127, 3, 107), none, none, some (.aload_n 0, 1, 0), some (.iload_n 2, 1, 0), some (.invokevirtual 127, 3, 107), none, none, some (.aload_n 0, 1, 0), some (.iload_n 3, 1, 0), some (.invokevirtual 130, 3, 105), none, none, some (.ifCond .ne 6, 3, 0), none, none, some (.bipush (-9), 2, 0), none, some (.ireturn, 1, 0), some (.aload_n 0, 1, 0), some (.iconst 0, 1, 0), some (.putfield 111, 3, 176), none, none, some (.aload_n 0, 1, 0), some (.iconst 3, 1, 0), some (.invokevirtual 127, 3, 107), none, none, some (.aload_n 0, 1, 0), some (.iload_n 2, 1, 0), some (.invokevirtual 127, 3, 107), none, none, some (.aload_n 0, 1, 0), some (.iload_n 1, 1, 0), some (.invokevirtual 130, 3, 105), none, none, some (.ifCond .ne 6, 3, 0), none, none, some (.bipush (-9), 2, 0), none, some (.ireturn, 1, 0), some (.aload_n 0, 1, 0), some (.iconst 0, 1, 0), some (.putfield 111, 3, 176), none, none, some (.aload_n 0, 1, 0), some (.iconst 5, 1, 0), some (.invokevirtual 127, 3, 107), none, none, some (.aload_n 0, 1, 0), some (.aload_n 0, 1, 0), some (.iload_n 3, 1, 0), some (.invokevirtual 130, 3, 105), none, none, some (.iconst 0, 1, 0), some (.invokevirtual 123, 3, 111), none, none, some (.ireturn, 1, 0)]
/-- FlashTreeModel.find (II)I -/
def K120 : List (Option Ent) := [some (.aload_n 0, 1, 0), some (.iload_n 1, 1, 0), some (.invokevirtual 137, 3, 109), none, none, some (.ifCond .ne 5, 3, 0), none, none, some (.iconst (-1), 1, 0), some (.ireturn, 1, 0), some (.aload_n 0, 1, 0), some (.iload_n 1, 1, 0), some (.invokevirtual 108, 3, 101), none, none, some (.istore_n 3, 1, 0), some (.aload_n 0, 1, 0), some (.iload_n 2, 1, 0), some (.invokevirtual 63, 3, 97), none, none, some (.istore 4, 2, 0), none, some (.iload 4, 2, 0), none, some (.ifCond .ge 8, 3, 0), none, none, some (.bipush (-2), 2, 0), none, some (.goto 5, 3, 0), none, none, some (.iload 4, 2, 0), none, some (.ireturn, 1, 0)]
/-- FlashTreeModel.entry (II)I -/
def K121 : List (Option Ent) := [some (.aload_n 0, 1, 0), some (.invokevirtual 133, 3, 110), none, none, some (.ifCond .ge 8, 3, 0), none, none, some (.aload_n 0, 1, 0), some (.invokevirtual 133, 3, 110), none, none, some (.ireturn, 1, 0), some (.aload_n 0, 1, 0), some (.iload_n 1, 1, 0), some (.invokevirtual 137, 3, 109), none, none, some (.ifCond .ne 5, 3, 0), none, none, some (.iconst (-1), 1, 0), some (.ireturn, 1, 0), some (.aload_n 0, 1, 0), some (.iload_n 1, 1, 0), some (.invokevirtual 108, 3, 101), none, none, some (.istore_n 3, 1, 0), some (.iload_n 2, 1, 0), some (.ifCond .lt 20, 3, 0), none, none, some (.iload_n 2, 1, 0), some (.aload_n 0, 1, 0), some (.getfield 60, 3, 171), none, none, some (.if_icmp .ge 12, 3, 0), none, none, some (.aload_n 0, 1, 0), some (.getfield 16, 3, 167), none, none, some (.iload_n 2, 1, 0), some (.iaload, 1, 0), some (.goto 4, 3, 0), none, none, some (.iconst 0, 1, 0), some (.ireturn, 1, 0)]
/-- FlashTreeModel.kind (II)I -/
def K122 : List (Option Ent) := [some (.aload_n 0, 1, 0), some (.invokevirtual 133, 3, 110), none, none, some (.ifCond .ge 8, 3, 0), none, none, some (.aload_n 0, 1, 0), some (.invokevirtual 133, 3, 110), none, none, some (.ireturn, 1, 0), some (.aload_n 0, 1, 0), some (.iload_n 1, 1, 0), some (.iload_n 2, 1, 0), some (.invokevirtual 146, 3, 120), none, none, some (.istore_n 3, 1, 0), some (.iload_n 3, 1, 0), some (.iconst (-1), 1, 0), some (.if_icmp .ne 7, 3, 0), none, none, some (.iconst (-1), 1, 0), some (.goto 19, 3, 0), none, none, some (.iload_n 3, 1, 0), some (.bipush (-2), 2, 0), none, some (.if_icmp .ne 7, 3, 0), none, none, some (.iconst 0, 1, 0), some (.goto 9, 3, 0), none, none, some (.aload_n 0, 1, 0), some (.getfield 19, 3, 168), none, none, some (.iload_n 3, 1, 0), some (.iaload, 1, 0), some (.ireturn, 1, 0)]
/-- FlashTreeModel.size (II)I -/
def K123 : List (Option Ent) := [some (.aload_n 0, 1, 0), some (.invokevirtual 133, 3, 110), none, none, some (.ifCond .ge 8, 3, 0), none, none, some (.aload_n 0, 1, 0), some (.invokevirtual 133, 3, 110), none, none, some (.ireturn, 1, 0), some (.aload_n 0, 1, 0), some (.iload_n 1, 1, 0), some (.iload_n 2, 1, 0), some (.invokevirtual 146, 3, 120), none, none, some (.istore_n 3, 1, 0), some (.iload_n 3, 1, 0), some (.ifCond .lt 13, 3, 0), none, none, some (.aload_n 0, 1, 0), some (.getfield 19, 3, 168), none, none, some (.iload_n 3, 1, 0), some (.iaload, 1, 0), some (.iconst 1, 1, 0), some (.if_icmp .eq 7, 3, 0), none, none, some (.iconst (-1), 1, 0), some (.goto 9, 3, 0), none, none, some (.aload_n 0, 1, 0), some (.getfield 22, 3, 169), none, none, some (.iload_n 3, 1, 0), some (.iaload, 1, 0), some (.ireturn, 1, 0)]
/-- FlashTreeModel.data (II)J -/
def K124 : List (Option Ent) := [some (.aload_n 0, 1, 0), some (.invokevirtual 133, 3, 110), none, none, some (.ifCond .ge 9, 3, 0), none, none, some (.aload_n 0, 1, 0), some (.invokevirtual 133, 3, 110), none, none, some (.i2l, 1, 0), some (.lreturn, 1, 0), some (.aload_n 0, 1, 0), some (.iload_n 1, 1, 0), some (.iload_n 2, 1, 0), some (.invokevirtual 146, 3, 120), none, none, some (.istore_n 3, 1, 0), some (.iload_n 3, 1, 0), some (.ifCond .lt 13, 3, 0), none, none, some (.aload_n 0, 1, 0), some (.getfield 19, 3, 168), none, none, some (.iload_n 3, 1, 0), some (.iaload, 1, 0), some (.iconst 1, 1, 0), some (.if_icmp .eq 9, 3, 0), none, none, some (.ldc2_w 150, 3, 0), none, none, some (.goto 9, 3, 0), none, none, some (.aload_n 0, 1, 0), some (.getfield 25, 3, 170), none, none, some (.iload_n 3, 1, 0), some (.laload, 1, 0), some (.lreturn, 1, 0)]
/-- FlashTreeModel.child (II)I -/
def K125 : List (Option Ent) := [some (.aload_n 0, 1, 0), some (.invokevirtual 133, 3, 110), none, none, some (.ifCond .ge 8, 3, 0), none, none, some (.aload_n 0, 1, 0), some (.invokevirtual 133, 3, 110), none, none, some (.ireturn, 1, 0), some (.aload_n 0, 1, 0), some (.iload_n 1, 1, 0), some (.iload_n 2, 1, 0), some (.invokevirtual 146, 3, 120), none, none, some (.istore_n 3, 1, 0), some (.iload_n 3, 1, 0), some (.ifCond .lt 13, 3, 0), none, none, some (.aload_n 0, 1, 0), some (.getfield 19, 3, 168), none, none, some (.iload_n 3, 1, 0), some (.iaload, 1, 0), some (.iconst 2, 1, 0), some (.if_icmp .eq 7, 3, 0), none, none, some (.iconst (-1), 1, 0), some (.goto 9, 3, 0), none, none, some (.aload_n 0, 1, 0), some (.getfield 22, 3, 169), none, none, some (.iload_n 3, 1, 0), some (.iaload, 1, 0), some (.ireturn, 1, 0)]
/-- FlashTreeModel.free ()I -/
def K126 : List (Option Ent) := [some (.aload_n 0, 1, 0), some (.invokevirtual 133, 3, 110), none, none, some (.ifCond .ge 8, 3, 0), none, none, some (.aload_n 0, 1, 0), some (.invokevirtual 133, 3, 110), none, none, some (.ireturn, 1, 0), some (.aload_n 0, 1, 0), some (.iconst 0, 1, 0), some (.invokevirtual 117, 3, 108), none, none, some (.istore_n 1, 1, 0), some (.iconst 0, 1, 0), some (.istore_n 2, 1, 0), some (.iconst 0, 1, 0), some (.istore_n 3, 1, 0), some (.iload_n 3, 1, 0), some (.bipush 8, 2, 0), none, some (.if_icmp .ge 19, 3, 0), none, none, some (.iload_n 2, 1, 0), some (.iconst 1, 1, 0), some (.iload_n 1, 1, 0), some (.iload_n 3, 1, 0), some (.ishr, 1, 0), some (.iconst 1, 1, 0), some (.iand, 1, 0), some (.isub, 1, 0), some (.iadd, 1, 0), some (.istore_n 2, 1, 0), some (.iinc 3 1, 3, 0), none, none, some (.goto (-19), 3, 0), none, none, some (.iload_n 2, 1, 0), some (.ireturn, 1, 0)]
/-- FlashTreeModel.byteAt (II)I -/
def K127 : List (Option Ent) := [some (.iload_n 1, 1, 0), some (.ifCond .lt 19, 3, 0), none, none, some (.iload_n 1, 1, 0), some (.bipush 15, 2, 0), none, some (.if_icmp .gt 13, 3, 0), none, none, some (.iload_n 2, 1, 0), some (.ifCond .lt 9, 3, 0), none, none, some (.iload_n 2, 1, 0), some (.bipush 63, 2, 0), none, some (.if_icmp .le 7, 3, 0), none, none, some (.iconst (-1), 1, 0), some (.goto 14, 3, 0), none, none, some (.aload_n 0, 1, 0), some (.getfield 7, 3, 160), none, none, some (.bipush 64, 2, 0), none, some (.iload_n 1, 1, 0), some (.imul, 1, 0), some (.iload_n 2, 1, 0), some (.iadd, 1, 0), some (.iaload, 1, 0), some (.ireturn, 1, 0)]
/-- FlashTreeModel.wear (I)I -/
def K128 : List (Option Ent) := [some (.iload_n 1, 1, 0), some (.ifCond .lt 9, 3, 0), none, none, some (.iload_n 1, 1, 0), some (.bipush 15, 2, 0), none, some (.if_icmp .le 7, 3, 0), none, none, some (.iconst (-1), 1, 0), some (.goto 9, 3, 0), none, none, some (.aload_n 0, 1, 0), some (.getfield 13, 3, 161), none, none, some (.iload_n 1, 1, 0), some (.iaload, 1, 0), some (.ireturn, 1, 0)]
/-- FlashTreeModel.units ()I -/
def K129 : List (Option Ent) := [some (.aload_n 0, 1, 0), some (.getfield 49, 3, 166), none, none, some (.ireturn, 1, 0)]
/-- FlashTreeLaw.law ([I)Z -/
def K130 : List (Option Ent) := [some (.new 7, 3, 4), none, none, some (.dup, 1, 0), some (.invokespecial 9, 3, 53), none, none, some (.astore_n 1, 1, 0), some (.new 10, 3, 5), none, none, some (.dup, 1, 0), some (.invokespecial 12, 3, 88), none, none, some (.astore_n 2, 1, 0), some (.iconst 0, 1, 0), some (.istore_n 3, 1, 0), some (.iload_n 3, 1, 0), some (.aload_n 0, 1, 0), some (.arraylength, 1, 0), some (.bipush 6, 2, 0), none, some (.isub, 1, 0), some (.if_icmp .gt 623, 3, 0), none, none, some (.aload_n 0, 1, 0), some (.iload_n 3, 1, 0), some (.iaload, 1, 0), some (.bipush 31, 2, 0), none, some (.iand, 1, 0), some (.tableswitch 608 0 17 #[87, 108, 121, 132, 145, 158, 191, 274, 307, 360, 393, 426, 459, 493, 526, 539, 572, 595], 87, 0), none, none, none, none, none, none, none, none, none, none, none, none, none, none, none, none, none, none, none, none, none, none, none, none, none, none, none, none, none, none, none, none, none, none, none, none, none, none, none, none, none, none, none, none, none, none, none, none, none, none, none, none, none, none, none, none, none, none, none, none, none, none, none, none, none, none, none, none, none, none, none, none, none, none, none, none, none, none, none, none, none, none, none, none, none, none, some (.aload_n 1, 1, 0), some (.aload_n 0, 1, 0), some (.iload_n 3, 1, 0), some (.iconst 1, 1, 0), some (.iadd, 1, 0), some (.iaload, 1, 0), some (.invokevirtual 13, 3, 54), none, none, some (.aload_n 2, 1, 0), some (.aload_n 0, 1, 0), some (.iload_n 3, 1, 0), some (.iconst 1, 1, 0), some (.iadd, 1, 0), some (.iaload, 1, 0), some (.invokevirtual 17, 3, 89), none, none, some (.goto 503, 3, 0), none, none, some (.aload_n 1, 1, 0), some (.invokevirtual 18, 3, 55), none, none, some (.aload_n 2, 1, 0), some (.invokevirtual 22, 3, 90), none, none, some (.if_icmp .eq 492, 3, 0), none, none, some (.iconst 0, 1, 0), some (.ireturn, 1, 0), some (.aload_n 1, 1, 0), some (.invokevirtual 23, 3, 56), none, none, some (.aload_n 2, 1, 0), some (.invokevirtual 26, 3, 91), none, none, some (.goto 479, 3, 0), none, none, some (.aload_n 1, 1, 0), some (.invokevirtual 27, 3, 57), none, none, some (.aload_n 2, 1, 0), some (.invokevirtual 31, 3, 112), none, none, some (.if_icmp .eq 468, 3, 0), none, none, some (.iconst 0, 1, 0), some (.ireturn, 1, 0), some (.aload_n 1, 1, 0), some (.invokevirtual 32, 3, 58), none, none, some (.aload_n 2, 1, 0), some (.invokevirtual 35, 3, 113), none, none, some (.if_icmp .eq 455, 3, 0), none, none, some (.iconst 0, 1, 0), some (.ireturn, 1, 0), some (.aload_n 1, 1, 0), some (.aload_n 0, 1, 0), some (.iload_n 3, 1, 0), some (.iconst 1, 1, 0), some (.iadd, 1, 0), some (.iaload, 1, 0), some (.aload_n 0, 1, 0), some (.iload_n 3, 1, 0), some (.iconst 2, 1, 0), some (.iadd, 1, 0), some (.iaload, 1, 0), some (.invokevirtual 36, 3, 59), none, none, some (.aload_n 2, 1, 0), some (.aload_n 0, 1, 0), some (.iload_n 3, 1, 0), some (.iconst 1, 1, 0), some (.iadd, 1, 0), some (.iaload, 1, 0), some (.aload_n 0, 1, 0), some (.iload_n 3, 1, 0), some (.iconst 2, 1, 0), some (.iadd, 1, 0), some (.iaload, 1, 0), some (.invokevirtual 40, 3, 115), none, none, some (.if_icmp .eq 422, 3, 0), none, none, some (.iconst 0, 1, 0), some (.ireturn, 1, 0), some (.aload_n 1, 1, 0), some (.aload_n 0, 1, 0), some (.iload_n 3, 1, 0), some (.iconst 1, 1, 0), some (.iadd, 1, 0), some (.iaload, 1, 0), some (.aload_n 0, 1, 0), some (.iload_n 3, 1, 0), some (.iconst 2, 1, 0), some (.iadd, 1, 0), some (.iaload, 1, 0), some (.aload_n 0, 1, 0), some (.iload_n 3, 1, 0), some (.iconst 3, 1, 0), some (.iadd, 1, 0), some (.iaload, 1, 0), some (.aload_n 0, 1, 0), some (.iload_n 3, 1, 0), some (.iconst 4, 1, 0), some (.iadd, 1, 0), some (.iaload, 1, 0), some (.i2l, 1, 0), some (.bipush 32, 2, 0), none, some (.lshl, 1, 0), some (.aload_n 0, 1, 0), some (.iload_n 3, 1, 0), some (.iconst 5, 1, 0), some (.iadd, 1, 0), some (.iaload, 1, 0), some (.i2l, 1, 0), some (.ldc2_w 41, 3, 1), none, none, some (.land, 1, 0), some (.lor, 1, 0), some (.invokevirtual 43, 3, 60), none, none, some (.aload_n 2, 1, 0), some (.aload_n 0, 1, 0), some (.iload_n 3, 1, 0), some (.iconst 1, 1, 0), some (.iadd, 1, 0), some (.iaload, 1, 0), some (.aload_n 0, 1, 0), some (.iload_n 3, 1, 0), some (.iconst 2, 1, 0), some (.iadd, 1, 0), some (.iaload, 1, 0), some (.aload_n 0, 1, 0), some (.iload_n 3, 1, 0), some (.iconst 3, 1, 0), some (.iadd, 1, 0), some (.iaload, 1, 0), some (.aload_n 0, 1, 0), some (.iload_n 3, 1, 0), some (.iconst 4, 1, 0), some (.iadd, 1, 0), some (.iaload, 1, 0), some (.i2l, 1, 0), some (.bipush 32, 2, 0), none, some (.lshl, 1, 0), some (.aload_n 0, 1, 0), some (.iload_n 3, 1, 0), some (.iconst 5, 1, 0), some (.iadd, 1, 0), some (.iaload, 1, 0), some (.i2l, 1, 0), some (.ldc2_w 41, 3, 1), none, none, some (.land, 1, 0), some (.lor, 1, 0), some (.invokevirtual 47, 3, 116), none, none, some (.if_icmp .eq 339, 3, 0), none, none, some (.iconst 0, 1, 0), some (.ireturn, 1, 0), some (.aload_n 1, 1, 0), some (.aload_n 0, 1, 0), some (.iload_n 3, 1, 0), some (.iconst 1, 1, 0), some (.iadd, 1, 0), some (.iaload, 1, 0), some (.aload_n 0, 1, 0), some (.iload_n 3, 1, 0), some (.iconst 2, 1, 0), some (.iadd, 1, 0), some (.iaload, 1, 0), some (.invokevirtual 48, 3, 61), none, none, some (.aload_n 2, 1, 0), some (.aload_n 0, 1, 0), some (.iload_n 3, 1, 0), some (.iconst 1, 1, 0), some (.iadd, 1, 0), some (.iaload, 1, 0), some (.aload_n 0, 1, 0), some (.iload_n 3, 1, 0), some (.iconst 2, 1, 0), some (.iadd, 1, 0), some (.iaload, 1, 0), some (.invokevirtual 51, 3, 117), none, none, some (.if_icmp .eq 306, 3, 0), none, none, some (.iconst 0, 1, 0), some (.ireturn, 1, 0), some (.aload_n 1, 1, 0), some (.aload_n 0, 1, 0), some (.iload_n 3, 1, 0), some (.iconst 1, 1, 0), some (.iadd, 1, 0), some (.iaload, 1, 0), some (.aload_n 0, 1, 0), some (.iload_n 3, 1, 0), some (.iconst 2, 1, 0), some (.iadd, 1, 0), some (.iaload, 1, 0), some (.aload_n 0, 1, 0), some (.iload_n 3, 1, 0), some (.iconst 3, 1, 0), some (.iadd, 1, 0), some (.iaload, 1, 0), some (.aload_n 0, 1, 0), some (.iload_n 3, 1, 0), some (.iconst 4, 1, 0), some (.iadd, 1, 0), some (.iaload, 1, 0), some (.invokevirtual 52, 3, 62), none, none, some (.aload_n 2, 1, 0), some (.aload_n 0, 1, 0), some (.iload_n 3, 1, 0), some (.iconst 1, 1, 0), some (.iadd, 1, 0), some (.iaload, 1, 0), some (.aload_n 0, 1, 0), some (.iload_n 3, 1, 0), some (.iconst 2, 1, 0), some (.iadd, 1, 0), some (.iaload, 1, 0), some (.aload_n 0, 1, 0), some (.iload_n 3, 1, 0), some (.iconst 3, 1, 0), some (.iadd, 1, 0), some (.iaload, 1, 0), some (.aload_n 0, 1, 0), some (.iload_n 3, 1, 0), some (.iconst 4, 1, 0), some (.iadd, 1, 0), some (.iaload, 1, 0), some (.invokevirtual 56, 3, 119), none, none, some (.if_icmp .eq 253, 3, 0), none, none, some (.iconst 0, 1, 0), some (.ireturn, 1, 0), some (.aload_n 1, 1, 0), some (.aload_n 0, 1, 0), some (.iload_n 3, 1, 0), some (.iconst 1, 1, 0), some (.iadd, 1, 0), some (.iaload, 1, 0), some (.aload_n 0, 1, 0), some (.iload_n 3, 1, 0), some (.iconst 2, 1, 0), some (.iadd, 1, 0), some (.iaload, 1, 0), some (.invokevirtual 57, 3, 63), none, none, some (.aload_n 2, 1, 0), some (.aload_n 0, 1, 0), some (.iload_n 3, 1, 0), some (.iconst 1, 1, 0), some (.iadd, 1, 0), some (.iaload, 1, 0), some (.aload_n 0, 1, 0), some (.iload_n 3, 1, 0), some (.iconst 2, 1, 0), some (.iadd, 1, 0), some (.iaload, 1, 0), some (.invokevirtual 60, 3, 121), none, none, some (.if_icmp .eq 220, 3, 0), none, none, some (.iconst 0, 1, 0), some (.ireturn, 1, 0), some (.aload_n 1, 1, 0), some (.aload_n 0, 1, 0), some (.iload_n 3, 1, 0), some (.iconst 1, 1, 0), some (.iadd, 1, 0), some (.iaload, 1, 0), some (.aload_n 0, 1, 0), some (.iload_n 3, 1, 0), some (.iconst 2, 1, 0), some (.iadd, 1, 0), some (.iaload, 1, 0), some (.invokevirtual 61, 3, 64), none, none, some (.aload_n 2, 1, 0), some (.aload_n 0, 1, 0), some (.iload_n 3, 1, 0), some (.iconst 1, 1, 0), some (.iadd, 1, 0), some (.iaload, 1, 0), some (.aload_n 0, 1, 0), some (.iload_n 3, 1, 0), some (.iconst 2, 1, 0), some (.iadd, 1, 0), some (.iaload, 1, 0), some (.invokevirtual 64, 3, 122), none, none, some (.if_icmp .eq 187, 3, 0), none, none, some (.iconst 0, 1, 0), some (.ireturn, 1, 0), some (.aload_n 1, 1, 0), some (.aload_n 0, 1, 0), some (.iload_n 3, 1, 0), some (.iconst 1, 1, 0), some (.iadd, 1, 0), some (.iaload, 1, 0), some (.aload_n 0, 1, 0), some (.iload_n 3, 1, 0), some (.iconst 2, 1, 0), some (.iadd, 1, 0), some (.iaload, 1, 0), some (.invokevirtual 65, 3, 65), none, none, some (.aload_n 2, 1, 0), some (.aload_n 0, 1, 0), some (.iload_n 3, 1, 0), some (.iconst 1, 1, 0), some (.iadd, 1, 0), some (.iaload, 1, 0), some (.aload_n 0, 1, 0), some (.iload_n 3, 1, 0), some (.iconst 2, 1, 0), some (.iadd, 1, 0), some (.iaload, 1, 0), some (.invokevirtual 68, 3, 123), none, none, some (.if_icmp .eq 154, 3, 0), none, none, some (.iconst 0, 1, 0), some (.ireturn, 1, 0), some (.aload_n 1, 1, 0), some (.aload_n 0, 1, 0), some (.iload_n 3, 1, 0), some (.iconst 1, 1, 0), some (.iadd, 1, 0), some (.iaload, 1, 0), some (.aload_n 0, 1, 0), some (.iload_n 3, 1, 0), some (.iconst 2, 1, 0), some (.iadd, 1, 0), some (.iaload, 1, 0), some (.invokevirtual 69, 3, 66), none, none, some (.aload_n 2, 1, 0), some (.aload_n 0, 1, 0), some (.iload_n 3, 1, 0), some (.iconst 1, 1, 0), some (.iadd, 1, 0), some (.iaload, 1, 0), some (.aload_n 0, 1, 0), some (.iload_n 3, 1, 0), some (.iconst 2, 1, 0), some (.iadd, 1, 0), some (.iaload, 1, 0), some (.invokevirtual 73, 3, 124), none, none, some (.lcmp, 1, 0), some (.ifCond .eq 120, 3, 0), none, none, some (.iconst 0, 1, 0), some (.ireturn, 1, 0), some (.aload_n 1, 1, 0), some (.aload_n 0, 1, 0), some (.iload_n 3, 1, 0), some (.iconst 1, 1, 0), some (.iadd, 1, 0), some (.iaload, 1, 0), some (.aload_n 0, 1, 0), some (.iload_n 3, 1, 0), some (.iconst 2, 1, 0), some (.iadd, 1, 0), some (.iaload, 1, 0), some (.invokevirtual 74, 3, 67), none, none, some (.aload_n 2, 1, 0), some (.aload_n 0, 1, 0), some (.iload_n 3, 1, 0), some (.iconst 1, 1, 0), some (.iadd, 1, 0), some (.iaload, 1, 0), some (.aload_n 0, 1, 0), some (.iload_n 3, 1, 0), some (.iconst 2, 1, 0), some (.iadd, 1, 0), some (.iaload, 1, 0), some (.invokevirtual 77, 3, 125), none, none, some (.if_icmp .eq 87, 3, 0), none, none, some (.iconst 0, 1, 0), some (.ireturn, 1, 0), some (.aload_n 1, 1, 0), some (.invokevirtual 78, 3, 68), none, none, some (.aload_n 2, 1, 0), some (.invokevirtual 81, 3, 126), none, none, some (.if_icmp .eq 74, 3, 0), none, none, some (.iconst 0, 1, 0), some (.ireturn, 1, 0), some (.aload_n 1, 1, 0), some (.aload_n 0, 1, 0), some (.iload_n 3, 1, 0), some (.iconst 1, 1, 0), some (.iadd, 1, 0), some (.iaload, 1, 0), some (.aload_n 0, 1, 0), some (.iload_n 3, 1, 0), some (.iconst 2, 1, 0), some (.iadd, 1, 0), some (.iaload, 1, 0), some (.invokevirtual 82, 3, 69), none, none, some (.aload_n 2, 1, 0), some (.aload_n 0, 1, 0), some (.iload_n 3, 1, 0), some (.iconst 1, 1, 0), some (.iadd, 1, 0), some (.iaload, 1, 0), some (.aload_n 0, 1, 0), some (.iload_n 3, 1, 0), some (.iconst 2, 1, 0), some (.iadd, 1, 0), some (.iaload, 1, 0), some (.invokevirtual 85, 3, 127), none, none, some (.if_icmp .eq 41, 3, 0), none, none, some (.iconst 0, 1, 0), some (.ireturn, 1, 0), some (.aload_n 1, 1, 0), some (.aload_n 0, 1, 0), some (.iload_n 3, 1, 0), some (.iconst 1, 1, 0), some (.iadd, 1, 0), some (.iaload, 1, 0), some (.invokevirtual 86, 3, 70), none, none, some (.aload_n 2, 1, 0), some (.aload_n 0, 1, 0), some (.iload_n 3, 1, 0), some (.iconst 1, 1, 0), some (.iadd, 1, 0), some (.iaload, 1, 0), some (.invokevirtual 90, 3, 128), none, none, some (.if_icmp .eq 18, 3, 0), none, none, some (.iconst 0, 1, 0), some (.ireturn, 1, 0), some (.aload_n 1, 1, 0), some (.invokevirtual 91, 3, 71), none, none, some (.aload_n 2, 1, 0), some (.invokevirtual 94, 3, 129), none, none, some (.if_icmp .eq 5, 3, 0), none, none, some (.iconst 0, 1, 0), some (.ireturn, 1, 0), some (.iinc 3 6, 3, 0), none, none, some (.goto (-626), 3, 0), none, none, some (.iconst 1, 1, 0), some (.ireturn, 1, 0)]
/-- class number, name, descriptor, bytes, max locals, return type, code, number of arguments (the receiver not counted), frames and words of locals below -/
abbrev Mrow : Type := Nat × String × String × ByteArray × Nat × Option FieldType × List (Option Ent) × Nat × Nat × Nat
def Q0 : Mrow := (0, "<init>", "()V", prog_2_method_1_code, 2, none, K0, 0, 1, 12)
def Q1 : Mrow := (0, "setCut", "(I)V", prog_2_method_2_code, 2, none, K1, 1, 0, 0)
def Q2 : Mrow := (0, "powerUp", "()V", prog_2_method_3_code, 1, none, K2, 0, 0, 0)
def Q3 : Mrow := (0, "isDark", "()Z", prog_2_method_4_code, 1, (some .boolean), K3, 0, 0, 0)
def Q4 : Mrow := (0, "unitsDone", "()I", prog_2_method_5_code, 1, (some .int), K4, 0, 0, 0)
def Q5 : Mrow := (0, "erasuresOf", "(I)I", prog_2_method_6_code, 2, (some .int), K5, 1, 1, 20)
def Q6 : Mrow := (0, "peek", "(II)I", prog_2_method_7_code, 3, (some .int), K6, 2, 1, 20)
def Q7 : Mrow := (0, "program", "(III)Z", prog_2_method_8_code, 4, (some .boolean), K7, 3, 1, 20)
def Q8 : Mrow := (0, "erase", "(I)Z", prog_2_method_9_code, 3, (some .boolean), K8, 1, 1, 20)
def Q9 : Mrow := (0, "behindRecord", "(II)I", prog_2_method_10_code, 5, (some .int), K9, 2, 2, 42)
def Q10 : Mrow := (0, "spendUnit", "()Z", prog_2_method_11_code, 1, (some .boolean), K10, 0, 0, 0)
def Q11 : Mrow := (0, "isBlock", "(I)Z", prog_2_method_12_code, 1, (some .boolean), K11, 1, 0, 0)
def Q12 : Mrow := (0, "isOffset", "(I)Z", prog_2_method_13_code, 1, (some .boolean), K12, 1, 0, 0)
def Q13 : Mrow := (1, "<init>", "(ILFlashTree$Flash;LFlashTree$Operations;)V", prog_3_method_1_code, 4, none, K13, 3, 2, 32)
def Q14 : Mrow := (1, "activeBlock", "()I", prog_3_method_2_code, 5, (some .int), K14, 0, 3, 66)
def Q15 : Mrow := (1, "load", "()V", prog_3_method_3_code, 5, none, K15, 0, 4, 95)
def Q16 : Mrow := (1, "begin", "()Z", prog_3_method_4_code, 1, (some .boolean), K16, 0, 6, 131)
def Q17 : Mrow := (1, "commit", "(LFlashTree$Operations;)Z", prog_3_method_5_code, 4, (some .boolean), K17, 1, 6, 131)
def Q18 : Mrow := (1, "isNewer", "(II)Z", prog_3_method_6_code, 4, (some .boolean), K18, 2, 2, 42)
def Q19 : Mrow := (1, "logEnd", "(I)I", prog_3_method_7_code, 5, (some .int), K19, 1, 3, 66)
def Q20 : Mrow := (1, "readOperations", "(II)V", prog_3_method_8_code, 5, none, K20, 2, 2, 42)
def Q21 : Mrow := (1, "writeAnew", "(I)Z", prog_3_method_9_code, 4, (some .boolean), K21, 1, 5, 108)
def Q22 : Mrow := (1, "programRecord", "(IILFlashTree$Operations;)Z", prog_3_method_10_code, 5, (some .boolean), K22, 3, 2, 43)
def Q23 : Mrow := (2, "<init>", "()V", prog_4_method_1_code, 1, none, K23, 0, 1, 12)
def Q24 : Mrow := (2, "clear", "()V", prog_4_method_2_code, 1, none, K24, 0, 0, 0)
def Q25 : Mrow := (2, "isEmpty", "()Z", prog_4_method_3_code, 1, (some .boolean), K25, 0, 0, 0)
def Q26 : Mrow := (2, "isFull", "()Z", prog_4_method_4_code, 1, (some .boolean), K26, 0, 0, 0)
def Q27 : Mrow := (2, "hasMark", "()Z", prog_4_method_5_code, 1, (some .boolean), K27, 0, 0, 0)
def Q28 : Mrow := (2, "find", "(I)I", prog_4_method_6_code, 3, (some .int), K28, 1, 0, 0)
def Q29 : Mrow := (2, "findFile", "(I)I", prog_4_method_7_code, 3, (some .int), K29, 1, 3, 63)
def Q30 : Mrow := (2, "isFolder", "(I)Z", prog_4_method_8_code, 2, (some .boolean), K30, 1, 2, 42)
def Q31 : Mrow := (2, "nameAt", "(I)I", prog_4_method_9_code, 2, (some .int), K31, 1, 1, 21)
def Q32 : Mrow := (2, "pairAt", "(I)I", prog_4_method_10_code, 2, (some .int), K32, 1, 1, 21)
def Q33 : Mrow := (2, "lengthAt", "(I)I", prog_4_method_11_code, 2, (some .int), K33, 1, 1, 21)
def Q34 : Mrow := (2, "contentAt", "(I)J", prog_4_method_12_code, 2, (some .long), K34, 1, 1, 21)
def Q35 : Mrow := (2, "addEntryTo", "(LFlashTree$Operations;II)V", prog_4_method_13_code, 4, none, K35, 3, 3, 63)
def Q36 : Mrow := (2, "addAllTo", "(LFlashTree$Operations;)V", prog_4_method_14_code, 3, none, K36, 1, 4, 86)
def Q37 : Mrow := (2, "apply", "(LFlashTree$Operations;)V", prog_4_method_15_code, 4, none, K37, 1, 3, 72)
def Q38 : Mrow := (2, "applyOne", "(LFlashTree$Operations;I)I", prog_4_method_16_code, 5, (some .int), K38, 2, 2, 48)
def Q39 : Mrow := (2, "put", "(IIIJ)V", prog_4_method_17_code, 7, none, K39, 4, 1, 22)
def Q40 : Mrow := (2, "takeOut", "(I)V", prog_4_method_18_code, 3, none, K40, 1, 1, 21)
def Q41 : Mrow := (2, "isPlace", "(I)Z", prog_4_method_19_code, 2, (some .boolean), K41, 1, 0, 0)
def Q42 : Mrow := (3, "<init>", "()V", prog_5_method_1_code, 1, none, K42, 0, 1, 12)
def Q43 : Mrow := (3, "clear", "()V", prog_5_method_2_code, 1, none, K43, 0, 0, 0)
def Q44 : Mrow := (3, "length", "()I", prog_5_method_3_code, 1, (some .int), K44, 0, 0, 0)
def Q45 : Mrow := (3, "at", "(I)I", prog_5_method_4_code, 2, (some .int), K45, 1, 0, 0)
def Q46 : Mrow := (3, "add", "(I)V", prog_5_method_5_code, 2, none, K46, 1, 0, 0)
def Q47 : Mrow := (3, "addFile", "(IIJ)V", prog_5_method_6_code, 6, none, K47, 3, 1, 21)
def Q48 : Mrow := (3, "addFolder", "(II)V", prog_5_method_7_code, 3, none, K48, 2, 1, 21)
def Q49 : Mrow := (3, "addGone", "(I)V", prog_5_method_8_code, 2, none, K49, 1, 1, 21)
def Q50 : Mrow := (3, "addMark", "(II)V", prog_5_method_9_code, 3, none, K50, 2, 1, 21)
def Q51 : Mrow := (3, "addNoMark", "()V", prog_5_method_10_code, 1, none, K51, 0, 1, 21)
def Q52 : Mrow := (3, "contentAt", "(II)J", prog_5_method_11_code, 6, (some .long), K52, 2, 1, 21)
def Q53 : Mrow := (4, "<init>", "()V", prog_1_method_1_code, 4, none, K53, 0, 3, 55)
def Q54 : Mrow := (4, "cut", "(I)V", prog_1_method_2_code, 2, none, K54, 1, 1, 21)
def Q55 : Mrow := (4, "off", "()Z", prog_1_method_3_code, 1, (some .boolean), K55, 0, 1, 20)
def Q56 : Mrow := (4, "on", "()V", prog_1_method_4_code, 1, none, K56, 0, 1, 20)
def Q57 : Mrow := (4, "format", "()I", prog_1_method_5_code, 2, (some .int), K57, 0, 7, 151)
def Q58 : Mrow := (4, "mount", "()I", prog_1_method_6_code, 2, (some .int), K58, 0, 9, 199)
def Q59 : Mrow := (4, "make", "(II)I", prog_1_method_7_code, 6, (some .int), K59, 2, 7, 154)
def Q60 : Mrow := (4, "write", "(IIIJ)I", prog_1_method_8_code, 8, (some .int), K60, 4, 7, 154)
def Q61 : Mrow := (4, "remove", "(II)I", prog_1_method_9_code, 6, (some .int), K61, 2, 7, 154)
def Q62 : Mrow := (4, "rename", "(IIII)I", prog_1_method_10_code, 10, (some .int), K62, 4, 8, 179)
def Q63 : Mrow := (4, "entry", "(II)I", prog_1_method_11_code, 4, (some .int), K63, 2, 3, 62)
def Q64 : Mrow := (4, "kind", "(II)I", prog_1_method_12_code, 5, (some .int), K64, 2, 3, 63)
def Q65 : Mrow := (4, "size", "(II)I", prog_1_method_13_code, 5, (some .int), K65, 2, 4, 85)
def Q66 : Mrow := (4, "data", "(II)J", prog_1_method_14_code, 5, (some .long), K66, 2, 4, 85)
def Q67 : Mrow := (4, "child", "(II)I", prog_1_method_15_code, 5, (some .int), K67, 2, 3, 63)
def Q68 : Mrow := (4, "free", "()I", prog_1_method_16_code, 3, (some .int), K68, 0, 2, 40)
def Q69 : Mrow := (4, "byteAt", "(II)I", prog_1_method_17_code, 3, (some .int), K69, 2, 2, 42)
def Q70 : Mrow := (4, "wear", "(I)I", prog_1_method_18_code, 2, (some .int), K70, 1, 2, 41)
def Q71 : Mrow := (4, "units", "()I", prog_1_method_19_code, 1, (some .int), K71, 0, 1, 20)
def Q72 : Mrow := (4, "refusal", "()I", prog_1_method_20_code, 1, (some .int), K72, 0, 1, 20)
def Q73 : Mrow := (4, "ended", "(ZI)I", prog_1_method_21_code, 3, (some .int), K73, 2, 3, 69)
def Q74 : Mrow := (4, "isName", "(I)Z", prog_1_method_22_code, 1, (some .boolean), K74, 1, 0, 0)
def Q75 : Mrow := (4, "isPair", "(I)Z", prog_1_method_23_code, 1, (some .boolean), K75, 1, 0, 0)
def Q76 : Mrow := (4, "folderAt", "(I)LFlashTree$Folder;", prog_1_method_24_code, 2, (some (.object "FlashTree$Folder")), K76, 1, 1, 20)
def Q77 : Mrow := (4, "folderReached", "(I)LFlashTree$Folder;", prog_1_method_25_code, 2, (some (.object "FlashTree$Folder")), K77, 1, 1, 20)
def Q78 : Mrow := (4, "folderThere", "(I)LFlashTree$Folder;", prog_1_method_26_code, 2, (some (.object "FlashTree$Folder")), K78, 1, 2, 41)
def Q79 : Mrow := (4, "lowestFreePair", "()I", prog_1_method_27_code, 2, (some .int), K79, 0, 0, 0)
def Q80 : Mrow := (4, "loadAll", "()V", prog_1_method_28_code, 3, none, K80, 0, 5, 119)
def Q81 : Mrow := (4, "reach", "(I[Z)V", prog_1_method_29_code, 8, none, K81, 2, 2, 42)
def Q82 : Mrow := (4, "finishMove", "()Z", prog_1_method_30_code, 3, (some .boolean), K82, 0, 8, 177)
def Q83 : Mrow := (4, "finishMoveTo", "(LFlashTree$Folder;)Z", prog_1_method_31_code, 4, (some .boolean), K83, 1, 7, 154)
def Q84 : Mrow := (4, "moveRefusal", "(LFlashTree$Folder;ILFlashTree$Folder;I)I", prog_1_method_32_code, 7, (some .int), K84, 4, 4, 91)
def Q85 : Mrow := (4, "isWithin", "(II)Z", prog_1_method_33_code, 3, (some .boolean), K85, 2, 3, 69)
def Q86 : Mrow := (4, "moveWithin", "(LFlashTree$Folder;II)Z", prog_1_method_34_code, 4, (some .boolean), K86, 3, 7, 154)
def Q87 : Mrow := (4, "moveAcross", "(LFlashTree$Folder;ILFlashTree$Folder;I)Z", prog_1_method_35_code, 6, (some .boolean), K87, 4, 7, 154)
def Q88 : Mrow := (5, "<init>", "()V", prog_7_method_1_code, 2, none, K88, 0, 1, 12)
def Q89 : Mrow := (5, "cut", "(I)V", prog_7_method_2_code, 2, none, K89, 1, 0, 0)
def Q90 : Mrow := (5, "off", "()Z", prog_7_method_3_code, 1, (some .boolean), K90, 0, 0, 0)
def Q91 : Mrow := (5, "on", "()V", prog_7_method_4_code, 1, none, K91, 0, 0, 0)
def Q92 : Mrow := (5, "spend", "()Z", prog_7_method_5_code, 1, (some .boolean), K92, 0, 0, 0)
def Q93 : Mrow := (5, "program", "(II)Z", prog_7_method_6_code, 3, (some .boolean), K93, 2, 1, 20)
def Q94 : Mrow := (5, "erase", "(I)Z", prog_7_method_7_code, 3, (some .boolean), K94, 1, 1, 20)
def Q95 : Mrow := (5, "counts", "(I)Z", prog_7_method_8_code, 3, (some .boolean), K95, 1, 0, 0)
def Q96 : Mrow := (5, "active", "(I)I", prog_7_method_9_code, 5, (some .int), K96, 1, 1, 22)
def Q97 : Mrow := (5, "at", "(I)I", prog_7_method_10_code, 3, (some .int), K97, 1, 0, 0)
def Q98 : Mrow := (5, "put", "(IIIJ)V", prog_7_method_11_code, 7, none, K98, 4, 1, 22)
def Q99 : Mrow := (5, "take", "(I)V", prog_7_method_12_code, 4, none, K99, 1, 1, 22)
def Q100 : Mrow := (5, "apply", "([III)V", prog_7_method_13_code, 11, none, K100, 3, 2, 48)
def Q101 : Mrow := (5, "read", "(I)I", prog_7_method_14_code, 7, (some .int), K101, 1, 3, 78)
def Q102 : Mrow := (5, "record", "(II[II)Z", prog_7_method_15_code, 6, (some .boolean), K102, 4, 2, 42)
def Q103 : Mrow := (5, "add", "(I)V", prog_7_method_16_code, 2, none, K103, 1, 0, 0)
def Q104 : Mrow := (5, "writeAnew", "(I)Z", prog_7_method_17_code, 4, (some .boolean), K104, 1, 3, 67)
def Q105 : Mrow := (5, "commit", "(I)Z", prog_7_method_18_code, 3, (some .boolean), K105, 1, 4, 104)
def Q106 : Mrow := (5, "beginPair", "(I)Z", prog_7_method_19_code, 3, (some .boolean), K106, 1, 4, 104)
def Q107 : Mrow := (5, "say", "(I)V", prog_7_method_20_code, 2, none, K107, 1, 0, 0)
def Q108 : Mrow := (5, "from", "(I)I", prog_7_method_21_code, 7, (some .int), K108, 1, 4, 104)
def Q109 : Mrow := (5, "there", "(I)Z", prog_7_method_22_code, 2, (some .boolean), K109, 1, 5, 130)
def Q110 : Mrow := (5, "ready", "()I", prog_7_method_23_code, 1, (some .int), K110, 0, 0, 0)
def Q111 : Mrow := (5, "done", "(ZI)I", prog_7_method_24_code, 3, (some .int), K111, 2, 0, 0)
def Q112 : Mrow := (5, "format", "()I", prog_7_method_25_code, 1, (some .int), K112, 0, 5, 126)
def Q113 : Mrow := (5, "mount", "()I", prog_7_method_26_code, 7, (some .int), K113, 0, 5, 130)
def Q114 : Mrow := (5, "named", "(I)Z", prog_7_method_27_code, 1, (some .boolean), K114, 1, 0, 0)
def Q115 : Mrow := (5, "make", "(II)I", prog_7_method_28_code, 7, (some .int), K115, 2, 6, 151)
def Q116 : Mrow := (5, "write", "(IIIJ)I", prog_7_method_29_code, 9, (some .int), K116, 4, 6, 151)
def Q117 : Mrow := (5, "remove", "(II)I", prog_7_method_30_code, 5, (some .int), K117, 2, 6, 151)
def Q118 : Mrow := (5, "sayEntry", "(IIIJ)V", prog_7_method_31_code, 7, none, K118, 4, 1, 21)
def Q119 : Mrow := (5, "rename", "(IIII)I", prog_7_method_32_code, 12, (some .int), K119, 4, 6, 151)
def Q120 : Mrow := (5, "find", "(II)I", prog_7_method_33_code, 5, (some .int), K120, 2, 6, 151)
def Q121 : Mrow := (5, "entry", "(II)I", prog_7_method_34_code, 4, (some .int), K121, 2, 6, 151)
def Q122 : Mrow := (5, "kind", "(II)I", prog_7_method_35_code, 4, (some .int), K122, 2, 7, 175)
def Q123 : Mrow := (5, "size", "(II)I", prog_7_method_36_code, 4, (some .int), K123, 2, 7, 175)
def Q124 : Mrow := (5, "data", "(II)J", prog_7_method_37_code, 4, (some .long), K124, 2, 7, 175)
def Q125 : Mrow := (5, "child", "(II)I", prog_7_method_38_code, 4, (some .int), K125, 2, 7, 175)
def Q126 : Mrow := (5, "free", "()I", prog_7_method_39_code, 4, (some .int), K126, 0, 5, 130)
def Q127 : Mrow := (5, "byteAt", "(II)I", prog_7_method_40_code, 3, (some .int), K127, 2, 0, 0)
def Q128 : Mrow := (5, "wear", "(I)I", prog_7_method_41_code, 2, (some .int), K128, 1, 0, 0)
def Q129 : Mrow := (5, "units", "()I", prog_7_method_42_code, 1, (some .int), K129, 0, 0, 0)
def Q130 : Mrow := (6, "law", "([I)Z", code, 4, (some .boolean), K130, 1, 10, 220)
def MT : List Mrow := [Q0, Q1, Q2, Q3, Q4, Q5, Q6, Q7, Q8, Q9, Q10, Q11, Q12, Q13, Q14, Q15, Q16, Q17, Q18, Q19, Q20, Q21, Q22, Q23, Q24, Q25, Q26, Q27, Q28, Q29, Q30, Q31, Q32, Q33, Q34, Q35, Q36, Q37, Q38, Q39, Q40, Q41, Q42, Q43, Q44, Q45, Q46, Q47, Q48, Q49, Q50, Q51, Q52, Q53, Q54, Q55, Q56, Q57, Q58, Q59, Q60, Q61, Q62, Q63, Q64, Q65, Q66, Q67, Q68, Q69, Q70, Q71, Q72, Q73, Q74, Q75, Q76, Q77, Q78, Q79, Q80, Q81, Q82, Q83, Q84, Q85, Q86, Q87, Q88, Q89, Q90, Q91, Q92, Q93, Q94, Q95, Q96, Q97, Q98, Q99, Q100, Q101, Q102, Q103, Q104, Q105, Q106, Q107, Q108, Q109, Q110, Q111, Q112, Q113, Q114, Q115, Q116, Q117, Q118, Q119, Q120, Q121, Q122, Q123, Q124, Q125, Q126, Q127, Q128, Q129, Q130]
def MR (m : Nat) : Mrow := MT.getD m Q130
def mCls (m : Nat) : Nat := (MR m).1
def mName (m : Nat) : String := (MR m).2.1
def mDesc (m : Nat) : String := (MR m).2.2.1
def mBytes (m : Nat) : ByteArray := (MR m).2.2.2.1
def mMax (m : Nat) : Nat := (MR m).2.2.2.2.1
def mRet (m : Nat) : Option FieldType := (MR m).2.2.2.2.2.1
def mCode (m : Nat) : List (Option Ent) := (MR m).2.2.2.2.2.2.1
def mArgs (m : Nat) : Nat := (MR m).2.2.2.2.2.2.2.1
def mFr (m : Nat) : Nat := (MR m).2.2.2.2.2.2.2.2.1
def mLo (m : Nat) : Nat := (MR m).2.2.2.2.2.2.2.2.2
def mY (m : Nat) : MethodName := ⟨cName (mCls m), mName m, mDesc m⟩
def kcs : List Int64 := [(-1), (4294967295)]
def cd (m pc : Nat) : Option Ent := ((mCode m)[pc]?).getD none
end
section
/-- the words that a call hands on -/
def gw : List Cond := lw_tbl.filter goodWord
def atW (i : Nat) (c : Cond) : Bool := decide (lw_tbl[i]? = some c) && goodWord c
theorem gw_of {i : Nat} {c : Cond} (h : atW i c = true) : c ∈ gw := by
  unfold atW at h
  rw [Bool.and_eq_true, decide_eq_true_eq] at h
  exact List.mem_filter.mpr ⟨List.mem_of_getElem? h.1, h.2⟩
theorem gw_sub : ∀ w ∈ gw, w ∈ lw_tbl := fun _ h => (List.mem_filter.mp h).1
theorem gw_good : GoodIn gw gw := fun w h => ⟨h, good_of_word (List.mem_filter.mp h).2⟩
/-- fields: class that links, entry of its pool, 32 * class + slot, place of the word -/
def FLt : List (Nat × Nat × Nat × Nat) := [(0, 9, 0, 67), (0, 15, 1, 68), (0, 18, 2, 69), (0, 22, 3, 70), (0, 25, 4, 71), (3, 9, 96, 90), (3, 15, 97, 91), (2, 9, 64, 110), (2, 15, 65, 111), (2, 18, 66, 112), (2, 21, 67, 113), (2, 25, 68, 114), (2, 29, 69, 115), (2, 32, 70, 117), (1, 9, 32, 136), (1, 15, 33, 138), (1, 19, 34, 139), (1, 26, 35, 140), (4, 13, 128, 151), (4, 21, 129, 152), (4, 25, 130, 153), (4, 29, 131, 154), (4, 32, 132, 155), (4, 36, 133, 156), (4, 40, 134, 157), (5, 7, 160, 528), (5, 13, 161, 529), (5, 43, 162, 530), (5, 46, 163, 531), (5, 35, 164, 532), (5, 39, 165, 533), (5, 49, 166, 534), (5, 16, 167, 535), (5, 19, 168, 536), (5, 22, 169, 537), (5, 25, 170, 538), (5, 60, 171, 539), (5, 75, 172, 540), (5, 78, 173, 541), (5, 84, 174, 542), (5, 29, 175, 543), (5, 111, 176, 544), (5, 32, 177, 545), (5, 95, 178, 546)]
def FNt : List (Nat × Nat × Nat × Nat) := [(4, 193, 69, 116), (4, 189, 70, 118), (4, 199, 32, 137), (4, 89, 35, 141)]
def hostN : String := "FlashTree"
def cT (ci : Nat) : u_T := (vwCl.getD ci ("", fun _ => ("", "", "", false), 0)).2.1
def fCond (o i a : Nat) : Cond := .fieldLink (cName o) i (cT (a / 32) (a % 32)).1 (cT (a / 32) (a % 32)).2.1 (cT (a / 32) (a % 32)).2.2.1
def nCond (o i a : Nat) : Cond := .fieldLinkNest (cName o) i (cT (a / 32) (a % 32)).1 (cT (a / 32) (a % 32)).2.1 (cT (a / 32) (a % 32)).2.2.1 hostN
def nwS : List Cond := FNt.map fun q => nCond q.1 q.2.1 q.2.2.1
theorem FLt_ok : FLt.all (fun q => atW q.2.2.2 (fCond q.1 q.2.1 q.2.2.1)) = true := by decide +kernel
theorem FNt_ok : FNt.all (fun q => decide (lw_tbl[q.2.2.2]? = some (nCond q.1 q.2.1 q.2.2.1))) = true := by decide +kernel
theorem nwS_sub : ∀ w ∈ nwS, w ∈ lw_tbl := by
  intro w h
  obtain ⟨q, hq, rfl⟩ := List.mem_map.mp h
  have := List.all_eq_true.mp FNt_ok q hq
  exact List.mem_of_getElem? (of_decide_eq_true this)
/-- methods: class that links, entry, the method, place of the word -/
def MLt : List (Nat × Nat × Nat × Nat) := [(6, 9, 53, 55), (4, 9, 0, 63), (4, 12, 42, 86), (4, 44, 13, 100), (1, 25, 23, 106), (6, 13, 54, 173), (4, 47, 1, 177), (6, 18, 55, 181), (4, 51, 3, 185), (6, 23, 56, 189), (4, 55, 2, 193), (6, 27, 57, 197), (4, 58, 76, 201), (4, 173, 75, 205), (4, 62, 16, 208), (1, 40, 24, 212), (1, 43, 14, 216), (1, 30, 9, 220), (0, 40, 6, 224), (0, 29, 11, 228), (0, 33, 12, 231), (1, 36, 18, 234), (1, 68, 6, 238), (1, 55, 21, 239), (1, 75, 43, 243), (1, 80, 36, 247), (2, 66, 31, 251), (2, 46, 41, 255), (2, 69, 35, 259), (2, 39, 30, 263), (2, 43, 32, 267), (2, 49, 48, 271), (3, 19, 46, 275), (2, 55, 33, 279), (2, 58, 34, 283), (2, 62, 47, 287), (2, 73, 27, 291), (2, 77, 50, 295), (1, 83, 8, 299), (0, 36, 10, 303), (1, 86, 7, 307), (1, 71, 22, 311), (1, 63, 44, 315), (1, 90, 45, 319), (6, 32, 58, 323), (4, 65, 14, 327), (4, 69, 80, 328), (4, 179, 15, 332), (1, 47, 20, 336), (1, 76, 46, 340), (1, 51, 37, 341), (2, 80, 44, 345), (2, 84, 38, 346), (2, 88, 45, 350), (2, 91, 52, 351), (3, 23, 45, 355), (2, 94, 39, 356), (2, 35, 28, 360), (2, 102, 26, 364), (2, 98, 40, 368), (4, 72, 81, 372), (4, 127, 32, 376), (4, 76, 82, 377), (4, 176, 77, 381), (4, 182, 27, 385), (4, 185, 83, 386), (4, 93, 28, 390), (4, 105, 43, 391), (4, 133, 49, 392), (4, 112, 17, 396), (1, 59, 19, 400), (4, 196, 51, 404), (6, 36, 59, 408), (4, 79, 78, 412), (4, 82, 72, 416), (4, 85, 74, 420), (4, 99, 26, 423), (4, 102, 79, 424), (4, 108, 48, 428), (4, 116, 73, 429), (6, 43, 60, 433), (4, 120, 30, 437), (4, 123, 47, 438), (6, 48, 61, 439), (4, 130, 25, 443), (6, 52, 62, 447), (4, 136, 84, 451), (4, 202, 85, 455), (4, 140, 86, 459), (4, 148, 31, 463), (4, 206, 35, 464), (4, 144, 87, 465), (4, 210, 50, 469), (6, 57, 63, 470), (6, 61, 64, 474), (6, 65, 65, 478), (4, 151, 29, 482), (4, 154, 33, 486), (6, 69, 66, 487), (4, 159, 34, 492), (6, 74, 67, 493), (6, 78, 68, 497), (6, 82, 69, 501), (4, 163, 6, 505), (6, 86, 70, 506), (4, 167, 5, 510), (6, 91, 71, 514), (4, 170, 4, 518), (6, 12, 88, 524), (6, 17, 89, 586), (6, 22, 90, 590), (6, 26, 91, 594), (6, 31, 112, 598), (5, 120, 106, 602), (5, 108, 101, 606), (5, 81, 96, 610), (5, 56, 95, 614), (5, 87, 100, 618), (5, 67, 98, 622), (5, 63, 97, 626), (5, 71, 99, 630), (5, 101, 94, 634), (5, 52, 92, 638), (5, 91, 93, 642), (5, 104, 102, 646), (5, 114, 104, 650), (5, 98, 103, 654), (5, 123, 111, 658), (6, 35, 113, 662), (5, 117, 108, 666), (5, 127, 107, 670), (5, 130, 105, 674), (6, 40, 115, 678), (5, 133, 110, 682), (5, 137, 109, 686), (5, 140, 114, 690), (6, 47, 116, 693), (6, 51, 117, 697), (6, 56, 119, 701), (5, 143, 118, 705), (6, 60, 121, 709), (6, 64, 122, 713), (5, 146, 120, 717), (6, 68, 123, 721), (6, 73, 124, 725), (6, 77, 125, 730), (6, 81, 126, 734), (6, 85, 127, 738), (6, 90, 128, 742), (6, 94, 129, 746)]
theorem MLt_ok : MLt.all (fun q => atW q.2.2.2 (.methodLink (cName q.1) q.2.1 (mY q.2.2.1))) = true := by decide +kernel
def OLt : List (Nat × Nat × Nat) := [(4, 1, 58), (0, 3, 66), (3, 3, 89), (1, 3, 103), (2, 3, 109), (5, 1, 527)]
theorem OLt_ok : OLt.all (fun q => atW q.2.2 (.methodLink (cName q.1) q.2.1 objectInit)) = true := by decide +kernel
def CLt : List (Nat × Nat × Nat × Nat) := [(6, 7, 4, 53), (4, 7, 0, 61), (4, 10, 3, 84), (4, 19, 1, 97), (1, 23, 2, 104), (6, 10, 5, 522)]
theorem CLt_ok : CLt.all (fun q => atW q.2.2.2 (.classLink (cName q.1) q.2.1 (cName q.2.2.1))) = true := by decide +kernel
def KLt : List (Nat × Nat × Nat × Nat) := [(4, 157, 0, 491), (5, 150, 0, 729), (6, 41, 1, 750)]
theorem KLt_ok : KLt.all (fun q => atW q.2.2.2 (.constantLong (cName q.1) q.2.1 (kcs.getD q.2.2.1 0))) = true := by decide +kernel
/-- a method: places of its code, its class's start, its kind (0 static, 1 constructor, 2 instance), the kind's word, its selection -/
def MPt : List (Nat × Nat × Nat × Nat × Nat) := [(65, 48, 1, 64, 0), (180, 48, 2, 178, 179), (196, 48, 2, 194, 195), (188, 48, 2, 186, 187), (521, 48, 2, 519, 520), (513, 48, 2, 511, 512), (227, 48, 2, 225, 226), (310, 48, 2, 308, 309), (302, 48, 2, 300, 301), (223, 48, 2, 221, 222), (306, 48, 2, 305, 4), (230, 48, 0, 229, 0), (233, 48, 0, 232, 0), (102, 50, 1, 101, 0), (219, 50, 2, 217, 218), (335, 50, 2, 333, 334), (211, 50, 2, 209, 210), (399, 50, 2, 397, 398), (237, 50, 2, 236, 1), (403, 50, 2, 402, 15), (339, 50, 2, 338, 7), (242, 50, 2, 241, 2), (314, 50, 2, 313, 5), (108, 51, 1, 107, 0), (215, 51, 2, 213, 214), (446, 51, 2, 444, 445), (367, 51, 2, 365, 366), (294, 51, 2, 292, 293), (363, 51, 2, 361, 362), (485, 51, 2, 483, 484), (266, 51, 2, 264, 265), (254, 51, 2, 252, 253), (270, 51, 2, 268, 269), (282, 51, 2, 280, 281), (286, 51, 2, 284, 285), (262, 51, 2, 260, 261), (250, 51, 2, 248, 249), (344, 51, 2, 342, 343), (349, 51, 2, 348, 8), (359, 51, 2, 358, 9), (371, 51, 2, 370, 10), (258, 51, 2, 257, 3), (88, 49, 1, 87, 0), (246, 49, 2, 244, 245), (318, 49, 2, 316, 317), (322, 49, 2, 320, 321), (278, 49, 2, 276, 277), (290, 49, 2, 288, 289), (274, 49, 2, 272, 273), (395, 49, 2, 393, 394), (298, 49, 2, 296, 297), (407, 49, 2, 405, 406), (354, 49, 2, 352, 353), (57, 47, 1, 56, 0), (176, 47, 2, 174, 175), (184, 47, 2, 182, 183), (192, 47, 2, 190, 191), (200, 47, 2, 198, 199), (326, 47, 2, 324, 325), (411, 47, 2, 409, 410), (436, 47, 2, 434, 435), (442, 47, 2, 440, 441), (450, 47, 2, 448, 449), (473, 47, 2, 471, 472), (477, 47, 2, 475, 476), (481, 47, 2, 479, 480), (490, 47, 2, 488, 489), (496, 47, 2, 494, 495), (500, 47, 2, 498, 499), (504, 47, 2, 502, 503), (509, 47, 2, 507, 508), (517, 47, 2, 515, 516), (419, 47, 2, 418, 17), (432, 47, 2, 431, 19), (422, 47, 0, 421, 0), (207, 47, 0, 206, 0), (204, 47, 2, 203, 0), (384, 47, 2, 383, 13), (415, 47, 2, 414, 16), (427, 47, 2, 426, 18), (331, 47, 2, 330, 6), (375, 47, 2, 374, 11), (380, 47, 2, 379, 12), (389, 47, 2, 388, 14), (454, 47, 2, 453, 20), (458, 47, 2, 457, 21), (462, 47, 2, 461, 22), (468, 47, 2, 467, 23), (526, 52, 1, 525, 0), (589, 52, 2, 587, 588), (593, 52, 2, 591, 592), (597, 52, 2, 595, 596), (641, 52, 2, 640, 33), (645, 52, 2, 644, 34), (637, 52, 2, 636, 32), (617, 52, 2, 616, 27), (613, 52, 2, 612, 26), (629, 52, 2, 628, 30), (625, 52, 2, 624, 29), (633, 52, 2, 632, 31), (621, 52, 2, 620, 28), (609, 52, 2, 608, 25), (649, 52, 2, 648, 35), (657, 52, 2, 656, 37), (653, 52, 2, 652, 36), (677, 52, 2, 676, 41), (605, 52, 2, 604, 24), (673, 52, 2, 672, 40), (669, 52, 2, 668, 39), (689, 52, 2, 688, 43), (685, 52, 2, 684, 42), (661, 52, 2, 660, 38), (601, 52, 2, 599, 600), (665, 52, 2, 663, 664), (692, 52, 0, 691, 0), (681, 52, 2, 679, 680), (696, 52, 2, 694, 695), (700, 52, 2, 698, 699), (708, 52, 2, 707, 44), (704, 52, 2, 702, 703), (720, 52, 2, 719, 45), (712, 52, 2, 710, 711), (716, 52, 2, 714, 715), (724, 52, 2, 722, 723), (728, 52, 2, 726, 727), (733, 52, 2, 731, 732), (737, 52, 2, 735, 736), (741, 52, 2, 739, 740), (745, 52, 2, 743, 744), (749, 52, 2, 747, 748)]
def mKind (m : Nat) : Nat := (MPt.getD m (0, 0, 9, 0, 0)).2.2.1
def okM (m : Nat) : Bool := match MPt[m]? with
  | none => false
  | some (pc, ini, kd, wd, sel) => atW ini (.initialized (mY m).cls) && plainName (mY m).cls && decide ((mY m).cls ≠ "java/lang/invoke/MethodHandle" ∧ (mY m).cls ≠ "java/lang/invoke/VarHandle") && decide ((parseMethodDescriptor (mY m).desc).map (fun d => d.parameters.length) = some (mArgs m)) && (match kd with
    | 0 => atW wd (.static (mY m))
    | 1 => atW wd (.instanceMethod (mY m)) && decide ((mY m).name = "<init>") && decide (mRet m = none)
    | _ => atW wd (.instanceMethod (mY m)) && atW sel (.selects (mY m).cls (mY m) (mY m)))
theorem good_code (y : MethodName) (b : ByteArray) (n : Nat) (r : Option FieldType) : goodWord (.code y b n r) = true := rfl
set_option maxRecDepth 20000 in
theorem mc_0 : Cond.code (mY 0) (mBytes 0) (mMax 0) (mRet 0) ∈ gw := List.mem_filter.mpr ⟨List.mem_of_getElem? (i := 65) rfl, good_code _ _ _ _⟩
set_option maxRecDepth 20000 in
theorem mc_1 : Cond.code (mY 1) (mBytes 1) (mMax 1) (mRet 1) ∈ gw := List.mem_filter.mpr ⟨List.mem_of_getElem? (i := 180) rfl, good_code _ _ _ _⟩
set_option maxRecDepth 20000 in
theorem mc_2 : Cond.code (mY 2) (mBytes 2) (mMax 2) (mRet 2) ∈ gw := List.mem_filter.mpr ⟨List.mem_of_getElem? (i := 196) rfl, good_code _ _ _ _⟩
set_option maxRecDepth 20000 in
theorem mc_3 : Cond.code (mY 3) (mBytes 3) (mMax 3) (mRet 3) ∈ gw := List.mem_filter.mpr ⟨List.mem_of_getElem? (i := 188) rfl, good_code _ _ _ _⟩
set_option maxRecDepth 20000 in
theorem mc_4 : Cond.code (mY 4) (mBytes 4) (mMax 4) (mRet 4) ∈ gw := List.mem_filter.mpr ⟨List.mem_of_getElem? (i := 521) rfl, good_code _ _ _ _⟩
set_option maxRecDepth 20000 in
theorem mc_5 : Cond.code (mY 5) (mBytes 5) (mMax 5) (mRet 5) ∈ gw := List.mem_filter.mpr ⟨List.mem_of_getElem? (i := 513) rfl, good_code _ _ _ _⟩
set_option maxRecDepth 20000 in
theorem mc_6 : Cond.code (mY 6) (mBytes 6) (mMax 6) (mRet 6) ∈ gw := List.mem_filter.mpr ⟨List.mem_of_getElem? (i := 227) rfl, good_code _ _ _ _⟩
set_option maxRecDepth 20000 in
theorem mc_7 : Cond.code (mY 7) (mBytes 7) (mMax 7) (mRet 7) ∈ gw := List.mem_filter.mpr ⟨List.mem_of_getElem? (i := 310) rfl, good_code _ _ _ _⟩
set_option maxRecDepth 20000 in
theorem mc_8 : Cond.code (mY 8) (mBytes 8) (mMax 8) (mRet 8) ∈ gw := List.mem_filter.mpr ⟨List.mem_of_getElem? (i := 302) rfl, good_code _ _ _ _⟩
set_option maxRecDepth 20000 in
theorem mc_9 : Cond.code (mY 9) (mBytes 9) (mMax 9) (mRet 9) ∈ gw := List.mem_filter.mpr ⟨List.mem_of_getElem? (i := 223) rfl, good_code _ _ _ _⟩
set_option maxRecDepth 20000 in
theorem mc_10 : Cond.code (mY 10) (mBytes 10) (mMax 10) (mRet 10) ∈ gw := List.mem_filter.mpr ⟨List.mem_of_getElem? (i := 306) rfl, good_code _ _ _ _⟩
set_option maxRecDepth 20000 in
theorem mc_11 : Cond.code (mY 11) (mBytes 11) (mMax 11) (mRet 11) ∈ gw := List.mem_filter.mpr ⟨List.mem_of_getElem? (i := 230) rfl, good_code _ _ _ _⟩
set_option maxRecDepth 20000 in
theorem mc_12 : Cond.code (mY 12) (mBytes 12) (mMax 12) (mRet 12) ∈ gw := List.mem_filter.mpr ⟨List.mem_of_getElem? (i := 233) rfl, good_code _ _ _ _⟩
set_option maxRecDepth 20000 in
theorem mc_13 : Cond.code (mY 13) (mBytes 13) (mMax 13) (mRet 13) ∈ gw := List.mem_filter.mpr ⟨List.mem_of_getElem? (i := 102) rfl, good_code _ _ _ _⟩
set_option maxRecDepth 20000 in
theorem mc_14 : Cond.code (mY 14) (mBytes 14) (mMax 14) (mRet 14) ∈ gw := List.mem_filter.mpr ⟨List.mem_of_getElem? (i := 219) rfl, good_code _ _ _ _⟩
set_option maxRecDepth 20000 in
theorem mc_15 : Cond.code (mY 15) (mBytes 15) (mMax 15) (mRet 15) ∈ gw := List.mem_filter.mpr ⟨List.mem_of_getElem? (i := 335) rfl, good_code _ _ _ _⟩
set_option maxRecDepth 20000 in
theorem mc_16 : Cond.code (mY 16) (mBytes 16) (mMax 16) (mRet 16) ∈ gw := List.mem_filter.mpr ⟨List.mem_of_getElem? (i := 211) rfl, good_code _ _ _ _⟩
set_option maxRecDepth 20000 in
theorem mc_17 : Cond.code (mY 17) (mBytes 17) (mMax 17) (mRet 17) ∈ gw := List.mem_filter.mpr ⟨List.mem_of_getElem? (i := 399) rfl, good_code _ _ _ _⟩
set_option maxRecDepth 20000 in
theorem mc_18 : Cond.code (mY 18) (mBytes 18) (mMax 18) (mRet 18) ∈ gw := List.mem_filter.mpr ⟨List.mem_of_getElem? (i := 237) rfl, good_code _ _ _ _⟩
set_option maxRecDepth 20000 in
theorem mc_19 : Cond.code (mY 19) (mBytes 19) (mMax 19) (mRet 19) ∈ gw := List.mem_filter.mpr ⟨List.mem_of_getElem? (i := 403) rfl, good_code _ _ _ _⟩
set_option maxRecDepth 20000 in
theorem mc_20 : Cond.code (mY 20) (mBytes 20) (mMax 20) (mRet 20) ∈ gw := List.mem_filter.mpr ⟨List.mem_of_getElem? (i := 339) rfl, good_code _ _ _ _⟩
set_option maxRecDepth 20000 in
theorem mc_21 : Cond.code (mY 21) (mBytes 21) (mMax 21) (mRet 21) ∈ gw := List.mem_filter.mpr ⟨List.mem_of_getElem? (i := 242) rfl, good_code _ _ _ _⟩
set_option maxRecDepth 20000 in
theorem mc_22 : Cond.code (mY 22) (mBytes 22) (mMax 22) (mRet 22) ∈ gw := List.mem_filter.mpr ⟨List.mem_of_getElem? (i := 314) rfl, good_code _ _ _ _⟩
set_option maxRecDepth 20000 in
theorem mc_23 : Cond.code (mY 23) (mBytes 23) (mMax 23) (mRet 23) ∈ gw := List.mem_filter.mpr ⟨List.mem_of_getElem? (i := 108) rfl, good_code _ _ _ _⟩
set_option maxRecDepth 20000 in
theorem mc_24 : Cond.code (mY 24) (mBytes 24) (mMax 24) (mRet 24) ∈ gw := List.mem_filter.mpr ⟨List.mem_of_getElem? (i := 215) rfl, good_code _ _ _ _⟩
set_option maxRecDepth 20000 in
theorem mc_25 : Cond.code (mY 25) (mBytes 25) (mMax 25) (mRet 25) ∈ gw := List.mem_filter.mpr ⟨List.mem_of_getElem? (i := 446) rfl, good_code _ _ _ _⟩
set_option maxRecDepth 20000 in
theorem mc_26 : Cond.code (mY 26) (mBytes 26) (mMax 26) (mRet 26) ∈ gw := List.mem_filter.mpr ⟨List.mem_of_getElem? (i := 367) rfl, good_code _ _ _ _⟩
set_option maxRecDepth 20000 in
theorem mc_27 : Cond.code (mY 27) (mBytes 27) (mMax 27) (mRet 27) ∈ gw := List.mem_filter.mpr ⟨List.mem_of_getElem? (i := 294) rfl, good_code _ _ _ _⟩
set_option maxRecDepth 20000 in
theorem mc_28 : Cond.code (mY 28) (mBytes 28) (mMax 28) (mRet 28) ∈ gw := List.mem_filter.mpr ⟨List.mem_of_getElem? (i := 363) rfl, good_code _ _ _ _⟩
set_option maxRecDepth 20000 in
theorem mc_29 : Cond.code (mY 29) (mBytes 29) (mMax 29) (mRet 29) ∈ gw := List.mem_filter.mpr ⟨List.mem_of_getElem? (i := 485) rfl, good_code _ _ _ _⟩
set_option maxRecDepth 20000 in
theorem mc_30 : Cond.code (mY 30) (mBytes 30) (mMax 30) (mRet 30) ∈ gw := List.mem_filter.mpr ⟨List.mem_of_getElem? (i := 266) rfl, good_code _ _ _ _⟩
set_option maxRecDepth 20000 in
theorem mc_31 : Cond.code (mY 31) (mBytes 31) (mMax 31) (mRet 31) ∈ gw := List.mem_filter.mpr ⟨List.mem_of_getElem? (i := 254) rfl, good_code _ _ _ _⟩
set_option maxRecDepth 20000 in
theorem mc_32 : Cond.code (mY 32) (mBytes 32) (mMax 32) (mRet 32) ∈ gw := List.mem_filter.mpr ⟨List.mem_of_getElem? (i := 270) rfl, good_code _ _ _ _⟩
set_option maxRecDepth 20000 in
theorem mc_33 : Cond.code (mY 33) (mBytes 33) (mMax 33) (mRet 33) ∈ gw := List.mem_filter.mpr ⟨List.mem_of_getElem? (i := 282) rfl, good_code _ _ _ _⟩
set_option maxRecDepth 20000 in
theorem mc_34 : Cond.code (mY 34) (mBytes 34) (mMax 34) (mRet 34) ∈ gw := List.mem_filter.mpr ⟨List.mem_of_getElem? (i := 286) rfl, good_code _ _ _ _⟩
set_option maxRecDepth 20000 in
theorem mc_35 : Cond.code (mY 35) (mBytes 35) (mMax 35) (mRet 35) ∈ gw := List.mem_filter.mpr ⟨List.mem_of_getElem? (i := 262) rfl, good_code _ _ _ _⟩
set_option maxRecDepth 20000 in
theorem mc_36 : Cond.code (mY 36) (mBytes 36) (mMax 36) (mRet 36) ∈ gw := List.mem_filter.mpr ⟨List.mem_of_getElem? (i := 250) rfl, good_code _ _ _ _⟩
set_option maxRecDepth 20000 in
theorem mc_37 : Cond.code (mY 37) (mBytes 37) (mMax 37) (mRet 37) ∈ gw := List.mem_filter.mpr ⟨List.mem_of_getElem? (i := 344) rfl, good_code _ _ _ _⟩
set_option maxRecDepth 20000 in
theorem mc_38 : Cond.code (mY 38) (mBytes 38) (mMax 38) (mRet 38) ∈ gw := List.mem_filter.mpr ⟨List.mem_of_getElem? (i := 349) rfl, good_code _ _ _ _⟩
set_option maxRecDepth 20000 in
theorem mc_39 : Cond.code (mY 39) (mBytes 39) (mMax 39) (mRet 39) ∈ gw := List.mem_filter.mpr ⟨List.mem_of_getElem? (i := 359) rfl, good_code _ _ _ _⟩
set_option maxRecDepth 20000 in
theorem mc_40 : Cond.code (mY 40) (mBytes 40) (mMax 40) (mRet 40) ∈ gw := List.mem_filter.mpr ⟨List.mem_of_getElem? (i := 371) rfl, good_code _ _ _ _⟩
set_option maxRecDepth 20000 in
theorem mc_41 : Cond.code (mY 41) (mBytes 41) (mMax 41) (mRet 41) ∈ gw := List.mem_filter.mpr ⟨List.mem_of_getElem? (i := 258) rfl, good_code _ _ _ _⟩
set_option maxRecDepth 20000 in
theorem mc_42 : Cond.code (mY 42) (mBytes 42) (mMax 42) (mRet 42) ∈ gw := List.mem_filter.mpr ⟨List.mem_of_getElem? (i := 88) rfl, good_code _ _ _ _⟩
set_option maxRecDepth 20000 in
theorem mc_43 : Cond.code (mY 43) (mBytes 43) (mMax 43) (mRet 43) ∈ gw := List.mem_filter.mpr ⟨List.mem_of_getElem? (i := 246) rfl, good_code _ _ _ _⟩
set_option maxRecDepth 20000 in
theorem mc_44 : Cond.code (mY 44) (mBytes 44) (mMax 44) (mRet 44) ∈ gw := List.mem_filter.mpr ⟨List.mem_of_getElem? (i := 318) rfl, good_code _ _ _ _⟩
set_option maxRecDepth 20000 in
theorem mc_45 : Cond.code (mY 45) (mBytes 45) (mMax 45) (mRet 45) ∈ gw := List.mem_filter.mpr ⟨List.mem_of_getElem? (i := 322) rfl, good_code _ _ _ _⟩
set_option maxRecDepth 20000 in
theorem mc_46 : Cond.code (mY 46) (mBytes 46) (mMax 46) (mRet 46) ∈ gw := List.mem_filter.mpr ⟨List.mem_of_getElem? (i := 278) rfl, good_code _ _ _ _⟩
set_option maxRecDepth 20000 in
theorem mc_47 : Cond.code (mY 47) (mBytes 47) (mMax 47) (mRet 47) ∈ gw := List.mem_filter.mpr ⟨List.mem_of_getElem? (i := 290) rfl, good_code _ _ _ _⟩
set_option maxRecDepth 20000 in
theorem mc_48 : Cond.code (mY 48) (mBytes 48) (mMax 48) (mRet 48) ∈ gw := List.mem_filter.mpr ⟨List.mem_of_getElem? (i := 274) rfl, good_code _ _ _ _⟩
set_option maxRecDepth 20000 in
theorem mc_49 : Cond.code (mY 49) (mBytes 49) (mMax 49) (mRet 49) ∈ gw := List.mem_filter.mpr ⟨List.mem_of_getElem? (i := 395) rfl, good_code _ _ _ _⟩
set_option maxRecDepth 20000 in
theorem mc_50 : Cond.code (mY 50) (mBytes 50) (mMax 50) (mRet 50) ∈ gw := List.mem_filter.mpr ⟨List.mem_of_getElem? (i := 298) rfl, good_code _ _ _ _⟩
set_option maxRecDepth 20000 in
theorem mc_51 : Cond.code (mY 51) (mBytes 51) (mMax 51) (mRet 51) ∈ gw := List.mem_filter.mpr ⟨List.mem_of_getElem? (i := 407) rfl, good_code _ _ _ _⟩
set_option maxRecDepth 20000 in
theorem mc_52 : Cond.code (mY 52) (mBytes 52) (mMax 52) (mRet 52) ∈ gw := List.mem_filter.mpr ⟨List.mem_of_getElem? (i := 354) rfl, good_code _ _ _ _⟩
set_option maxRecDepth 20000 in
theorem mc_53 : Cond.code (mY 53) (mBytes 53) (mMax 53) (mRet 53) ∈ gw := List.mem_filter.mpr ⟨List.mem_of_getElem? (i := 57) rfl, good_code _ _ _ _⟩
set_option maxRecDepth 20000 in
theorem mc_54 : Cond.code (mY 54) (mBytes 54) (mMax 54) (mRet 54) ∈ gw := List.mem_filter.mpr ⟨List.mem_of_getElem? (i := 176) rfl, good_code _ _ _ _⟩
set_option maxRecDepth 20000 in
theorem mc_55 : Cond.code (mY 55) (mBytes 55) (mMax 55) (mRet 55) ∈ gw := List.mem_filter.mpr ⟨List.mem_of_getElem? (i := 184) rfl, good_code _ _ _ _⟩
set_option maxRecDepth 20000 in
theorem mc_56 : Cond.code (mY 56) (mBytes 56) (mMax 56) (mRet 56) ∈ gw := List.mem_filter.mpr ⟨List.mem_of_getElem? (i := 192) rfl, good_code _ _ _ _⟩
set_option maxRecDepth 20000 in
theorem mc_57 : Cond.code (mY 57) (mBytes 57) (mMax 57) (mRet 57) ∈ gw := List.mem_filter.mpr ⟨List.mem_of_getElem? (i := 200) rfl, good_code _ _ _ _⟩
set_option maxRecDepth 20000 in
theorem mc_58 : Cond.code (mY 58) (mBytes 58) (mMax 58) (mRet 58) ∈ gw := List.mem_filter.mpr ⟨List.mem_of_getElem? (i := 326) rfl, good_code _ _ _ _⟩
set_option maxRecDepth 20000 in
theorem mc_59 : Cond.code (mY 59) (mBytes 59) (mMax 59) (mRet 59) ∈ gw := List.mem_filter.mpr ⟨List.mem_of_getElem? (i := 411) rfl, good_code _ _ _ _⟩
set_option maxRecDepth 20000 in
theorem mc_60 : Cond.code (mY 60) (mBytes 60) (mMax 60) (mRet 60) ∈ gw := List.mem_filter.mpr ⟨List.mem_of_getElem? (i := 436) rfl, good_code _ _ _ _⟩
set_option maxRecDepth 20000 in
theorem mc_61 : Cond.code (mY 61) (mBytes 61) (mMax 61) (mRet 61) ∈ gw := List.mem_filter.mpr ⟨List.mem_of_getElem? (i := 442) rfl, good_code _ _ _ _⟩
set_option maxRecDepth 20000 in
theorem mc_62 : Cond.code (mY 62) (mBytes 62) (mMax 62) (mRet 62) ∈ gw := List.mem_filter.mpr ⟨List.mem_of_getElem? (i := 450) rfl, good_code _ _ _ _⟩
set_option maxRecDepth 20000 in
theorem mc_63 : Cond.code (mY 63) (mBytes 63) (mMax 63) (mRet 63) ∈ gw := List.mem_filter.mpr ⟨List.mem_of_getElem? (i := 473) rfl, good_code _ _ _ _⟩
set_option maxRecDepth 20000 in
theorem mc_64 : Cond.code (mY 64) (mBytes 64) (mMax 64) (mRet 64) ∈ gw := List.mem_filter.mpr ⟨List.mem_of_getElem? (i := 477) rfl, good_code _ _ _ _⟩
set_option maxRecDepth 20000 in
theorem mc_65 : Cond.code (mY 65) (mBytes 65) (mMax 65) (mRet 65) ∈ gw := List.mem_filter.mpr ⟨List.mem_of_getElem? (i := 481) rfl, good_code _ _ _ _⟩
set_option maxRecDepth 20000 in
theorem mc_66 : Cond.code (mY 66) (mBytes 66) (mMax 66) (mRet 66) ∈ gw := List.mem_filter.mpr ⟨List.mem_of_getElem? (i := 490) rfl, good_code _ _ _ _⟩
set_option maxRecDepth 20000 in
theorem mc_67 : Cond.code (mY 67) (mBytes 67) (mMax 67) (mRet 67) ∈ gw := List.mem_filter.mpr ⟨List.mem_of_getElem? (i := 496) rfl, good_code _ _ _ _⟩
set_option maxRecDepth 20000 in
theorem mc_68 : Cond.code (mY 68) (mBytes 68) (mMax 68) (mRet 68) ∈ gw := List.mem_filter.mpr ⟨List.mem_of_getElem? (i := 500) rfl, good_code _ _ _ _⟩
set_option maxRecDepth 20000 in
theorem mc_69 : Cond.code (mY 69) (mBytes 69) (mMax 69) (mRet 69) ∈ gw := List.mem_filter.mpr ⟨List.mem_of_getElem? (i := 504) rfl, good_code _ _ _ _⟩
set_option maxRecDepth 20000 in
theorem mc_70 : Cond.code (mY 70) (mBytes 70) (mMax 70) (mRet 70) ∈ gw := List.mem_filter.mpr ⟨List.mem_of_getElem? (i := 509) rfl, good_code _ _ _ _⟩
set_option maxRecDepth 20000 in
theorem mc_71 : Cond.code (mY 71) (mBytes 71) (mMax 71) (mRet 71) ∈ gw := List.mem_filter.mpr ⟨List.mem_of_getElem? (i := 517) rfl, good_code _ _ _ _⟩
set_option maxRecDepth 20000 in
theorem mc_72 : Cond.code (mY 72) (mBytes 72) (mMax 72) (mRet 72) ∈ gw := List.mem_filter.mpr ⟨List.mem_of_getElem? (i := 419) rfl, good_code _ _ _ _⟩
set_option maxRecDepth 20000 in
theorem mc_73 : Cond.code (mY 73) (mBytes 73) (mMax 73) (mRet 73) ∈ gw := List.mem_filter.mpr ⟨List.mem_of_getElem? (i := 432) rfl, good_code _ _ _ _⟩
set_option maxRecDepth 20000 in
theorem mc_74 : Cond.code (mY 74) (mBytes 74) (mMax 74) (mRet 74) ∈ gw := List.mem_filter.mpr ⟨List.mem_of_getElem? (i := 422) rfl, good_code _ _ _ _⟩
set_option maxRecDepth 20000 in
theorem mc_75 : Cond.code (mY 75) (mBytes 75) (mMax 75) (mRet 75) ∈ gw := List.mem_filter.mpr ⟨List.mem_of_getElem? (i := 207) rfl, good_code _ _ _ _⟩
set_option maxRecDepth 20000 in
theorem mc_76 : Cond.code (mY 76) (mBytes 76) (mMax 76) (mRet 76) ∈ gw := List.mem_filter.mpr ⟨List.mem_of_getElem? (i := 204) rfl, good_code _ _ _ _⟩
set_option maxRecDepth 20000 in
theorem mc_77 : Cond.code (mY 77) (mBytes 77) (mMax 77) (mRet 77) ∈ gw := List.mem_filter.mpr ⟨List.mem_of_getElem? (i := 384) rfl, good_code _ _ _ _⟩
set_option maxRecDepth 20000 in
theorem mc_78 : Cond.code (mY 78) (mBytes 78) (mMax 78) (mRet 78) ∈ gw := List.mem_filter.mpr ⟨List.mem_of_getElem? (i := 415) rfl, good_code _ _ _ _⟩
set_option maxRecDepth 20000 in
theorem mc_79 : Cond.code (mY 79) (mBytes 79) (mMax 79) (mRet 79) ∈ gw := List.mem_filter.mpr ⟨List.mem_of_getElem? (i := 427) rfl, good_code _ _ _ _⟩
set_option maxRecDepth 20000 in
theorem mc_80 : Cond.code (mY 80) (mBytes 80) (mMax 80) (mRet 80) ∈ gw := List.mem_filter.mpr ⟨List.mem_of_getElem? (i := 331) rfl, good_code _ _ _ _⟩
set_option maxRecDepth 20000 in
theorem mc_81 : Cond.code (mY 81) (mBytes 81) (mMax 81) (mRet 81) ∈ gw := List.mem_filter.mpr ⟨List.mem_of_getElem? (i := 375) rfl, good_code _ _ _ _⟩
set_option maxRecDepth 20000 in
theorem mc_82 : Cond.code (mY 82) (mBytes 82) (mMax 82) (mRet 82) ∈ gw := List.mem_filter.mpr ⟨List.mem_of_getElem? (i := 380) rfl, good_code _ _ _ _⟩
set_option maxRecDepth 20000 in
theorem mc_83 : Cond.code (mY 83) (mBytes 83) (mMax 83) (mRet 83) ∈ gw := List.mem_filter.mpr ⟨List.mem_of_getElem? (i := 389) rfl, good_code _ _ _ _⟩
set_option maxRecDepth 20000 in
theorem mc_84 : Cond.code (mY 84) (mBytes 84) (mMax 84) (mRet 84) ∈ gw := List.mem_filter.mpr ⟨List.mem_of_getElem? (i := 454) rfl, good_code _ _ _ _⟩
set_option maxRecDepth 20000 in
theorem mc_85 : Cond.code (mY 85) (mBytes 85) (mMax 85) (mRet 85) ∈ gw := List.mem_filter.mpr ⟨List.mem_of_getElem? (i := 458) rfl, good_code _ _ _ _⟩
set_option maxRecDepth 20000 in
theorem mc_86 : Cond.code (mY 86) (mBytes 86) (mMax 86) (mRet 86) ∈ gw := List.mem_filter.mpr ⟨List.mem_of_getElem? (i := 462) rfl, good_code _ _ _ _⟩
set_option maxRecDepth 20000 in
theorem mc_87 : Cond.code (mY 87) (mBytes 87) (mMax 87) (mRet 87) ∈ gw := List.mem_filter.mpr ⟨List.mem_of_getElem? (i := 468) rfl, good_code _ _ _ _⟩
set_option maxRecDepth 20000 in
theorem mc_88 : Cond.code (mY 88) (mBytes 88) (mMax 88) (mRet 88) ∈ gw := List.mem_filter.mpr ⟨List.mem_of_getElem? (i := 526) rfl, good_code _ _ _ _⟩
set_option maxRecDepth 20000 in
theorem mc_89 : Cond.code (mY 89) (mBytes 89) (mMax 89) (mRet 89) ∈ gw := List.mem_filter.mpr ⟨List.mem_of_getElem? (i := 589) rfl, good_code _ _ _ _⟩
set_option maxRecDepth 20000 in
theorem mc_90 : Cond.code (mY 90) (mBytes 90) (mMax 90) (mRet 90) ∈ gw := List.mem_filter.mpr ⟨List.mem_of_getElem? (i := 593) rfl, good_code _ _ _ _⟩
set_option maxRecDepth 20000 in
theorem mc_91 : Cond.code (mY 91) (mBytes 91) (mMax 91) (mRet 91) ∈ gw := List.mem_filter.mpr ⟨List.mem_of_getElem? (i := 597) rfl, good_code _ _ _ _⟩
set_option maxRecDepth 20000 in
theorem mc_92 : Cond.code (mY 92) (mBytes 92) (mMax 92) (mRet 92) ∈ gw := List.mem_filter.mpr ⟨List.mem_of_getElem? (i := 641) rfl, good_code _ _ _ _⟩
set_option maxRecDepth 20000 in
theorem mc_93 : Cond.code (mY 93) (mBytes 93) (mMax 93) (mRet 93) ∈ gw := List.mem_filter.mpr ⟨List.mem_of_getElem? (i := 645) rfl, good_code _ _ _ _⟩
set_option maxRecDepth 20000 in
theorem mc_94 : Cond.code (mY 94) (mBytes 94) (mMax 94) (mRet 94) ∈ gw := List.mem_filter.mpr ⟨List.mem_of_getElem? (i := 637) rfl, good_code _ _ _ _⟩
set_option maxRecDepth 20000 in
theorem mc_95 : Cond.code (mY 95) (mBytes 95) (mMax 95) (mRet 95) ∈ gw := List.mem_filter.mpr ⟨List.mem_of_getElem? (i := 617) rfl, good_code _ _ _ _⟩
set_option maxRecDepth 20000 in
theorem mc_96 : Cond.code (mY 96) (mBytes 96) (mMax 96) (mRet 96) ∈ gw := List.mem_filter.mpr ⟨List.mem_of_getElem? (i := 613) rfl, good_code _ _ _ _⟩
set_option maxRecDepth 20000 in
theorem mc_97 : Cond.code (mY 97) (mBytes 97) (mMax 97) (mRet 97) ∈ gw := List.mem_filter.mpr ⟨List.mem_of_getElem? (i := 629) rfl, good_code _ _ _ _⟩
set_option maxRecDepth 20000 in
theorem mc_98 : Cond.code (mY 98) (mBytes 98) (mMax 98) (mRet 98) ∈ gw := List.mem_filter.mpr ⟨List.mem_of_getElem? (i := 625) rfl, good_code _ _ _ _⟩
set_option maxRecDepth 20000 in
theorem mc_99 : Cond.code (mY 99) (mBytes 99) (mMax 99) (mRet 99) ∈ gw := List.mem_filter.mpr ⟨List.mem_of_getElem? (i := 633) rfl, good_code _ _ _ _⟩
set_option maxRecDepth 20000 in
theorem mc_100 : Cond.code (mY 100) (mBytes 100) (mMax 100) (mRet 100) ∈ gw := List.mem_filter.mpr ⟨List.mem_of_getElem? (i := 621) rfl, good_code _ _ _ _⟩
set_option maxRecDepth 20000 in
theorem mc_101 : Cond.code (mY 101) (mBytes 101) (mMax 101) (mRet 101) ∈ gw := List.mem_filter.mpr ⟨List.mem_of_getElem? (i := 609) rfl, good_code _ _ _ _⟩
set_option maxRecDepth 20000 in
theorem mc_102 : Cond.code (mY 102) (mBytes 102) (mMax 102) (mRet 102) ∈ gw := List.mem_filter.mpr ⟨List.mem_of_getElem? (i := 649) rfl, good_code _ _ _ _⟩
set_option maxRecDepth 20000 in
theorem mc_103 : Cond.code (mY 103) (mBytes 103) (mMax 103) (mRet 103) ∈ gw := List.mem_filter.mpr ⟨List.mem_of_getElem? (i := 657) rfl, good_code _ _ _ _⟩
set_option maxRecDepth 20000 in
theorem mc_104 : Cond.code (mY 104) (mBytes 104) (mMax 104) (mRet 104) ∈ gw := List.mem_filter.mpr ⟨List.mem_of_getElem? (i := 653) rfl, good_code _ _ _ _⟩
set_option maxRecDepth 20000 in
theorem mc_105 : Cond.code (mY 105) (mBytes 105) (mMax 105) (mRet 105) ∈ gw := List.mem_filter.mpr ⟨List.mem_of_getElem? (i := 677) rfl, good_code _ _ _ _⟩
set_option maxRecDepth 20000 in
theorem mc_106 : Cond.code (mY 106) (mBytes 106) (mMax 106) (mRet 106) ∈ gw := List.mem_filter.mpr ⟨List.mem_of_getElem? (i := 605) rfl, good_code _ _ _ _⟩
set_option maxRecDepth 20000 in
theorem mc_107 : Cond.code (mY 107) (mBytes 107) (mMax 107) (mRet 107) ∈ gw := List.mem_filter.mpr ⟨List.mem_of_getElem? (i := 673) rfl, good_code _ _ _ _⟩
set_option maxRecDepth 20000 in
theorem mc_108 : Cond.code (mY 108) (mBytes 108) (mMax 108) (mRet 108) ∈ gw := List.mem_filter.mpr ⟨List.mem_of_getElem? (i := 669) rfl, good_code _ _ _ _⟩
set_option maxRecDepth 20000 in
theorem mc_109 : Cond.code (mY 109) (mBytes 109) (mMax 109) (mRet 109) ∈ gw := List.mem_filter.mpr ⟨List.mem_of_getElem? (i := 689) rfl, good_code _ _ _ _⟩
set_option maxRecDepth 20000 in
theorem mc_110 : Cond.code (mY 110) (mBytes 110) (mMax 110) (mRet 110) ∈ gw := List.mem_filter.mpr ⟨List.mem_of_getElem? (i := 685) rfl, good_code _ _ _ _⟩
set_option maxRecDepth 20000 in
theorem mc_111 : Cond.code (mY 111) (mBytes 111) (mMax 111) (mRet 111) ∈ gw := List.mem_filter.mpr ⟨List.mem_of_getElem? (i := 661) rfl, good_code _ _ _ _⟩
set_option maxRecDepth 20000 in
theorem mc_112 : Cond.code (mY 112) (mBytes 112) (mMax 112) (mRet 112) ∈ gw := List.mem_filter.mpr ⟨List.mem_of_getElem? (i := 601) rfl, good_code _ _ _ _⟩
set_option maxRecDepth 20000 in
theorem mc_113 : Cond.code (mY 113) (mBytes 113) (mMax 113) (mRet 113) ∈ gw := List.mem_filter.mpr ⟨List.mem_of_getElem? (i := 665) rfl, good_code _ _ _ _⟩
set_option maxRecDepth 20000 in
theorem mc_114 : Cond.code (mY 114) (mBytes 114) (mMax 114) (mRet 114) ∈ gw := List.mem_filter.mpr ⟨List.mem_of_getElem? (i := 692) rfl, good_code _ _ _ _⟩
set_option maxRecDepth 20000 in
theorem mc_115 : Cond.code (mY 115) (mBytes 115) (mMax 115) (mRet 115) ∈ gw := List.mem_filter.mpr ⟨List.mem_of_getElem? (i := 681) rfl, good_code _ _ _ _⟩
set_option maxRecDepth 20000 in
theorem mc_116 : Cond.code (mY 116) (mBytes 116) (mMax 116) (mRet 116) ∈ gw := List.mem_filter.mpr ⟨List.mem_of_getElem? (i := 696) rfl, good_code _ _ _ _⟩
set_option maxRecDepth 20000 in
theorem mc_117 : Cond.code (mY 117) (mBytes 117) (mMax 117) (mRet 117) ∈ gw := List.mem_filter.mpr ⟨List.mem_of_getElem? (i := 700) rfl, good_code _ _ _ _⟩
set_option maxRecDepth 20000 in
theorem mc_118 : Cond.code (mY 118) (mBytes 118) (mMax 118) (mRet 118) ∈ gw := List.mem_filter.mpr ⟨List.mem_of_getElem? (i := 708) rfl, good_code _ _ _ _⟩
set_option maxRecDepth 20000 in
theorem mc_119 : Cond.code (mY 119) (mBytes 119) (mMax 119) (mRet 119) ∈ gw := List.mem_filter.mpr ⟨List.mem_of_getElem? (i := 704) rfl, good_code _ _ _ _⟩
set_option maxRecDepth 20000 in
theorem mc_120 : Cond.code (mY 120) (mBytes 120) (mMax 120) (mRet 120) ∈ gw := List.mem_filter.mpr ⟨List.mem_of_getElem? (i := 720) rfl, good_code _ _ _ _⟩
set_option maxRecDepth 20000 in
theorem mc_121 : Cond.code (mY 121) (mBytes 121) (mMax 121) (mRet 121) ∈ gw := List.mem_filter.mpr ⟨List.mem_of_getElem? (i := 712) rfl, good_code _ _ _ _⟩
set_option maxRecDepth 20000 in
theorem mc_122 : Cond.code (mY 122) (mBytes 122) (mMax 122) (mRet 122) ∈ gw := List.mem_filter.mpr ⟨List.mem_of_getElem? (i := 716) rfl, good_code _ _ _ _⟩
set_option maxRecDepth 20000 in
theorem mc_123 : Cond.code (mY 123) (mBytes 123) (mMax 123) (mRet 123) ∈ gw := List.mem_filter.mpr ⟨List.mem_of_getElem? (i := 724) rfl, good_code _ _ _ _⟩
set_option maxRecDepth 20000 in
theorem mc_124 : Cond.code (mY 124) (mBytes 124) (mMax 124) (mRet 124) ∈ gw := List.mem_filter.mpr ⟨List.mem_of_getElem? (i := 728) rfl, good_code _ _ _ _⟩
set_option maxRecDepth 20000 in
theorem mc_125 : Cond.code (mY 125) (mBytes 125) (mMax 125) (mRet 125) ∈ gw := List.mem_filter.mpr ⟨List.mem_of_getElem? (i := 733) rfl, good_code _ _ _ _⟩
set_option maxRecDepth 20000 in
theorem mc_126 : Cond.code (mY 126) (mBytes 126) (mMax 126) (mRet 126) ∈ gw := List.mem_filter.mpr ⟨List.mem_of_getElem? (i := 737) rfl, good_code _ _ _ _⟩
set_option maxRecDepth 20000 in
theorem mc_127 : Cond.code (mY 127) (mBytes 127) (mMax 127) (mRet 127) ∈ gw := List.mem_filter.mpr ⟨List.mem_of_getElem? (i := 741) rfl, good_code _ _ _ _⟩
set_option maxRecDepth 20000 in
theorem mc_128 : Cond.code (mY 128) (mBytes 128) (mMax 128) (mRet 128) ∈ gw := List.mem_filter.mpr ⟨List.mem_of_getElem? (i := 745) rfl, good_code _ _ _ _⟩
set_option maxRecDepth 20000 in
theorem mc_129 : Cond.code (mY 129) (mBytes 129) (mMax 129) (mRet 129) ∈ gw := List.mem_filter.mpr ⟨List.mem_of_getElem? (i := 749) rfl, good_code _ _ _ _⟩
theorem mc_all : ∀ m, m < 130 → Cond.code (mY m) (mBytes m) (mMax m) (mRet m) ∈ gw
  | 0, _ => mc_0
  | 1, _ => mc_1
  | 2, _ => mc_2
  | 3, _ => mc_3
  | 4, _ => mc_4
  | 5, _ => mc_5
  | 6, _ => mc_6
  | 7, _ => mc_7
  | 8, _ => mc_8
  | 9, _ => mc_9
  | 10, _ => mc_10
  | 11, _ => mc_11
  | 12, _ => mc_12
  | 13, _ => mc_13
  | 14, _ => mc_14
  | 15, _ => mc_15
  | 16, _ => mc_16
  | 17, _ => mc_17
  | 18, _ => mc_18
  | 19, _ => mc_19
  | 20, _ => mc_20
  | 21, _ => mc_21
  | 22, _ => mc_22
  | 23, _ => mc_23
  | 24, _ => mc_24
  | 25, _ => mc_25
  | 26, _ => mc_26
  | 27, _ => mc_27
  | 28, _ => mc_28
  | 29, _ => mc_29
  | 30, _ => mc_30
  | 31, _ => mc_31
  | 32, _ => mc_32
  | 33, _ => mc_33
  | 34, _ => mc_34
  | 35, _ => mc_35
  | 36, _ => mc_36
  | 37, _ => mc_37
  | 38, _ => mc_38
  | 39, _ => mc_39
  | 40, _ => mc_40
  | 41, _ => mc_41
  | 42, _ => mc_42
  | 43, _ => mc_43
  | 44, _ => mc_44
  | 45, _ => mc_45
  | 46, _ => mc_46
  | 47, _ => mc_47
  | 48, _ => mc_48
  | 49, _ => mc_49
  | 50, _ => mc_50
  | 51, _ => mc_51
  | 52, _ => mc_52
  | 53, _ => mc_53
  | 54, _ => mc_54
  | 55, _ => mc_55
  | 56, _ => mc_56
  | 57, _ => mc_57
  | 58, _ => mc_58
  | 59, _ => mc_59
  | 60, _ => mc_60
  | 61, _ => mc_61
  | 62, _ => mc_62
  | 63, _ => mc_63
  | 64, _ => mc_64
  | 65, _ => mc_65
  | 66, _ => mc_66
  | 67, _ => mc_67
  | 68, _ => mc_68
  | 69, _ => mc_69
  | 70, _ => mc_70
  | 71, _ => mc_71
  | 72, _ => mc_72
  | 73, _ => mc_73
  | 74, _ => mc_74
  | 75, _ => mc_75
  | 76, _ => mc_76
  | 77, _ => mc_77
  | 78, _ => mc_78
  | 79, _ => mc_79
  | 80, _ => mc_80
  | 81, _ => mc_81
  | 82, _ => mc_82
  | 83, _ => mc_83
  | 84, _ => mc_84
  | 85, _ => mc_85
  | 86, _ => mc_86
  | 87, _ => mc_87
  | 88, _ => mc_88
  | 89, _ => mc_89
  | 90, _ => mc_90
  | 91, _ => mc_91
  | 92, _ => mc_92
  | 93, _ => mc_93
  | 94, _ => mc_94
  | 95, _ => mc_95
  | 96, _ => mc_96
  | 97, _ => mc_97
  | 98, _ => mc_98
  | 99, _ => mc_99
  | 100, _ => mc_100
  | 101, _ => mc_101
  | 102, _ => mc_102
  | 103, _ => mc_103
  | 104, _ => mc_104
  | 105, _ => mc_105
  | 106, _ => mc_106
  | 107, _ => mc_107
  | 108, _ => mc_108
  | 109, _ => mc_109
  | 110, _ => mc_110
  | 111, _ => mc_111
  | 112, _ => mc_112
  | 113, _ => mc_113
  | 114, _ => mc_114
  | 115, _ => mc_115
  | 116, _ => mc_116
  | 117, _ => mc_117
  | 118, _ => mc_118
  | 119, _ => mc_119
  | 120, _ => mc_120
  | 121, _ => mc_121
  | 122, _ => mc_122
  | 123, _ => mc_123
  | 124, _ => mc_124
  | 125, _ => mc_125
  | 126, _ => mc_126
  | 127, _ => mc_127
  | 128, _ => mc_128
  | 129, _ => mc_129
  | k + 130, h => absurd h (by omega)
theorem okM_0 : (List.range' 0 33).all okM = true := by decide +kernel
theorem okM_1 : (List.range' 33 33).all okM = true := by decide +kernel
theorem okM_2 : (List.range' 66 33).all okM = true := by decide +kernel
theorem okM_3 : (List.range' 99 31).all okM = true := by decide +kernel
theorem okM_all : ∀ m, m < 130 → okM m = true := by
  intro m hm
  rcases (show (0 ≤ m ∧ m < 33) ∨ (33 ≤ m ∧ m < 66) ∨ (66 ≤ m ∧ m < 99) ∨ (99 ≤ m ∧ m < 130) by omega) with h | h | h | h
  · exact List.all_eq_true.mp okM_0 m (List.mem_range'_1.mpr (by omega))
  · exact List.all_eq_true.mp okM_1 m (List.mem_range'_1.mpr (by omega))
  · exact List.all_eq_true.mp okM_2 m (List.mem_range'_1.mpr (by omega))
  · exact List.all_eq_true.mp okM_3 m (List.mem_range'_1.mpr (by omega))
def wAO : Cond := .arrayOver (.object (cName 1))
theorem wAO_in : wAO ∈ lw_tbl := List.mem_of_getElem? (i := 98) (by decide +kernel)
theorem wOI_in : Cond.instanceMethod objectInit ∈ gw := gw_of (i := 59) (by decide +kernel)
theorem wOC_in : Cond.code objectInit ⟨#[0xb1]⟩ 1 none ∈ gw := gw_of (i := 60) (by decide +kernel)
theorem wA_int : Cond.arrayClass .int ∈ gw := gw_of (i := 83) (by decide +kernel)
theorem wA_boolean : Cond.arrayClass .boolean ∈ gw := gw_of (i := 134) (by decide +kernel)
theorem wA_long : Cond.arrayClass .long ∈ gw := gw_of (i := 135) (by decide +kernel)
def NWt : List (Nat × Nat) := [(62, 48), (99, 50), (105, 51), (85, 49), (54, 47), (523, 52)]
theorem NWt_ok : (List.range 6).all (fun ci => atW (NWt.getD ci (0, 0)).1 (.instantiable (cName ci) (nSl ci)) && atW (NWt.getD ci (0, 0)).2 (.initialized (cName ci))) = true := by decide +kernel
theorem lay0 : ∀ w ∈ u_ws RX0 TX0 5, w ∈ gw := by
  intro w h
  obtain ⟨k, hk, rfl⟩ := List.mem_map.mp h
  have h2 : (List.range 5).all (fun k => atW (([72, 74, 76, 78, 80] : List Nat).getD k 0) (u_lay RX0 TX0 k)) = true := by decide +kernel
  exact gw_of (List.all_eq_true.mp h2 k hk)
theorem lay1 : ∀ w ∈ u_ws RX1 TX1 4, w ∈ gw := by
  intro w h
  obtain ⟨k, hk, rfl⟩ := List.mem_map.mp h
  have h2 : (List.range 4).all (fun k => atW (([142, 144, 146, 148] : List Nat).getD k 0) (u_lay RX1 TX1 k)) = true := by decide +kernel
  exact gw_of (List.all_eq_true.mp h2 k hk)
theorem lay2 : ∀ w ∈ u_ws RX2 TX2 7, w ∈ gw := by
  intro w h
  obtain ⟨k, hk, rfl⟩ := List.mem_map.mp h
  have h2 : (List.range 7).all (fun k => atW (([119, 121, 123, 125, 127, 129, 131] : List Nat).getD k 0) (u_lay RX2 TX2 k)) = true := by decide +kernel
  exact gw_of (List.all_eq_true.mp h2 k hk)
theorem lay3 : ∀ w ∈ u_ws RX3 TX3 2, w ∈ gw := by
  intro w h
  obtain ⟨k, hk, rfl⟩ := List.mem_map.mp h
  have h2 : (List.range 2).all (fun k => atW (([92, 94] : List Nat).getD k 0) (u_lay RX3 TX3 k)) = true := by decide +kernel
  exact gw_of (List.all_eq_true.mp h2 k hk)
theorem lay4 : ∀ w ∈ u_ws RX4 TX4 7, w ∈ gw := by
  intro w h
  obtain ⟨k, hk, rfl⟩ := List.mem_map.mp h
  have h2 : (List.range 7).all (fun k => atW (([158, 160, 162, 164, 166, 168, 170] : List Nat).getD k 0) (u_lay RX4 TX4 k)) = true := by decide +kernel
  exact gw_of (List.all_eq_true.mp h2 k hk)
theorem lay5 : ∀ w ∈ u_ws RX5 TX5 19, w ∈ gw := by
  intro w h
  obtain ⟨k, hk, rfl⟩ := List.mem_map.mp h
  have h2 : (List.range 19).all (fun k => atW (([547, 549, 551, 553, 555, 557, 559, 561, 563, 565, 567, 569, 571, 573, 575, 577, 579, 581, 583] : List Nat).getD k 0) (u_lay RX5 TX5 k)) = true := by decide +kernel
  exact gw_of (List.all_eq_true.mp h2 k hk)
end
section
def okLen (i : Instr) (len : Nat) : Bool := match i with
  | .tableswitch _ _ _ _ => true
  | .bipush _ | .iload _ | .lload _ | .aload _ | .istore _ | .lstore _ | .astore _ | .newarray _ => len == 2
  | .sipush _ | .ldc2_w _ | .iinc _ _ | .ifCond _ _ | .if_icmp _ _ | .ifnull _ | .ifnonnull _ | .goto _ | .getfield _ | .putfield _ | .invokevirtual _ | .invokespecial _ | .invokestatic _ | .new _ | .anewarray _ => len == 3
  | _ => len == 1
def inT (t : List (Nat × Nat × Nat × Nat)) (o x a : Nat) : Bool := t.any fun q => q.1 == o && (q.2.1 == x && q.2.2.1 == a)
def roomOk (m c : Nat) : Bool := decide (mFr c + 1 ≤ mFr m) && decide (8 + (mMax c + 11) + mLo c ≤ mLo m)
def lnk (m : Nat) (i : Instr) (aux : Nat) : Bool := match i with
  | .getfield x => decide (aux / 32 < 6) && decide (aux % 32 < nSl (aux / 32)) && (inT FLt (mCls m) x aux || inT FNt (mCls m) x aux)
  | .putfield x => decide (aux / 32 < 6) && decide (aux % 32 < nSl (aux / 32)) && inT FLt (mCls m) x aux && (!(cT (aux / 32) (aux % 32)).2.2.2 || (decide (mName m = "<init>") && decide (aux / 32 = mCls m)))
  | .invokevirtual x => decide (aux < 130) && inT MLt (mCls m) x aux && decide (mKind aux = 2) && roomOk m aux
  | .invokespecial x => if aux = 999 then (OLt.any fun q => q.1 == mCls m && q.2.1 == x) && decide (1 ≤ mFr m) && decide (12 ≤ mLo m) else decide (aux < 130) && inT MLt (mCls m) x aux && decide (mKind aux = 1) && roomOk m aux
  | .invokestatic x => decide (aux < 130) && inT MLt (mCls m) x aux && decide (mKind aux = 0) && roomOk m aux
  | .new x => decide (aux < 6) && inT CLt (mCls m) x aux
  | .anewarray x => decide (aux = 1) && inT CLt (mCls m) x aux
  | .newarray t => match t with
    | .int | .boolean | .long => true
    | _ => false
  | .ldc2_w x => decide (aux < kcs.length) && inT KLt (mCls m) x aux
  | _ => true
def okPc (m pc : Nat) : Bool := match cd m pc with
  | none => true
  | some (i, len, aux) => decide (decode (mBytes m) pc = .ok (i, len)) && okLen i len && lnk m i aux
theorem okPc_big {m pc : Nat} (h : (mCode m).length ≤ pc) : okPc m pc = true := by
  unfold okPc cd
  rw [List.getElem?_eq_none h]
  rfl

theorem oc_0_0 : (List.range' 0 48).all (okPc 0) = true := by decide +kernel
theorem oc_0_1 : (List.range' 48 15).all (okPc 0) = true := by decide +kernel
theorem oc_0 : ∀ pc, okPc 0 pc = true := by
  intro pc
  rcases (show (0 ≤ pc ∧ pc < 48) ∨ (48 ≤ pc ∧ pc < 63) ∨ 63 ≤ pc by omega) with h | h | h
  · exact List.all_eq_true.mp oc_0_0 pc (List.mem_range'_1.mpr (by omega))
  · exact List.all_eq_true.mp oc_0_1 pc (List.mem_range'_1.mpr (by omega))
  · exact okPc_big (Nat.le_trans (Nat.le_of_ble_eq_true (by decide +kernel)) h)
theorem oc_1_0 : (List.range' 0 14).all (okPc 1) = true := by decide +kernel
theorem oc_1 : ∀ pc, okPc 1 pc = true := by
  intro pc
  rcases (show (0 ≤ pc ∧ pc < 14) ∨ 14 ≤ pc by omega) with h | h
  · exact List.all_eq_true.mp oc_1_0 pc (List.mem_range'_1.mpr (by omega))
  · exact okPc_big (Nat.le_trans (Nat.le_of_ble_eq_true (by decide +kernel)) h)
theorem oc_2_0 : (List.range' 0 6).all (okPc 2) = true := by decide +kernel
theorem oc_2 : ∀ pc, okPc 2 pc = true := by
  intro pc
  rcases (show (0 ≤ pc ∧ pc < 6) ∨ 6 ≤ pc by omega) with h | h
  · exact List.all_eq_true.mp oc_2_0 pc (List.mem_range'_1.mpr (by omega))
  · exact okPc_big (Nat.le_trans (Nat.le_of_ble_eq_true (by decide +kernel)) h)
theorem oc_3_0 : (List.range' 0 5).all (okPc 3) = true := by decide +kernel
theorem oc_3 : ∀ pc, okPc 3 pc = true := by
  intro pc
  rcases (show (0 ≤ pc ∧ pc < 5) ∨ 5 ≤ pc by omega) with h | h
  · exact List.all_eq_true.mp oc_3_0 pc (List.mem_range'_1.mpr (by omega))
  · exact okPc_big (Nat.le_trans (Nat.le_of_ble_eq_true (by decide +kernel)) h)
theorem oc_4_0 : (List.range' 0 5).all (okPc 4) = true := by decide +kernel
theorem oc_4 : ∀ pc, okPc 4 pc = true := by
  intro pc
  rcases (show (0 ≤ pc ∧ pc < 5) ∨ 5 ≤ pc by omega) with h | h
  · exact List.all_eq_true.mp oc_4_0 pc (List.mem_range'_1.mpr (by omega))
  · exact okPc_big (Nat.le_trans (Nat.le_of_ble_eq_true (by decide +kernel)) h)
theorem oc_5_0 : (List.range' 0 18).all (okPc 5) = true := by decide +kernel
theorem oc_5 : ∀ pc, okPc 5 pc = true := by
  intro pc
  rcases (show (0 ≤ pc ∧ pc < 18) ∨ 18 ≤ pc by omega) with h | h
  · exact List.all_eq_true.mp oc_5_0 pc (List.mem_range'_1.mpr (by omega))
  · exact okPc_big (Nat.le_trans (Nat.le_of_ble_eq_true (by decide +kernel)) h)
theorem oc_6_0 : (List.range' 0 30).all (okPc 6) = true := by decide +kernel
theorem oc_6 : ∀ pc, okPc 6 pc = true := by
  intro pc
  rcases (show (0 ≤ pc ∧ pc < 30) ∨ 30 ≤ pc by omega) with h | h
  · exact List.all_eq_true.mp oc_6_0 pc (List.mem_range'_1.mpr (by omega))
  · exact okPc_big (Nat.le_trans (Nat.le_of_ble_eq_true (by decide +kernel)) h)
theorem oc_7_0 : (List.range' 0 41).all (okPc 7) = true := by decide +kernel
theorem oc_7 : ∀ pc, okPc 7 pc = true := by
  intro pc
  rcases (show (0 ≤ pc ∧ pc < 41) ∨ 41 ≤ pc by omega) with h | h
  · exact List.all_eq_true.mp oc_7_0 pc (List.mem_range'_1.mpr (by omega))
  · exact okPc_big (Nat.le_trans (Nat.le_of_ble_eq_true (by decide +kernel)) h)
theorem oc_8_0 : (List.range' 0 48).all (okPc 8) = true := by decide +kernel
theorem oc_8_1 : (List.range' 48 8).all (okPc 8) = true := by decide +kernel
theorem oc_8 : ∀ pc, okPc 8 pc = true := by
  intro pc
  rcases (show (0 ≤ pc ∧ pc < 48) ∨ (48 ≤ pc ∧ pc < 56) ∨ 56 ≤ pc by omega) with h | h | h
  · exact List.all_eq_true.mp oc_8_0 pc (List.mem_range'_1.mpr (by omega))
  · exact List.all_eq_true.mp oc_8_1 pc (List.mem_range'_1.mpr (by omega))
  · exact okPc_big (Nat.le_trans (Nat.le_of_ble_eq_true (by decide +kernel)) h)
theorem oc_9_0 : (List.range' 0 40).all (okPc 9) = true := by decide +kernel
theorem oc_9 : ∀ pc, okPc 9 pc = true := by
  intro pc
  rcases (show (0 ≤ pc ∧ pc < 40) ∨ 40 ≤ pc by omega) with h | h
  · exact List.all_eq_true.mp oc_9_0 pc (List.mem_range'_1.mpr (by omega))
  · exact okPc_big (Nat.le_trans (Nat.le_of_ble_eq_true (by decide +kernel)) h)
theorem oc_10_0 : (List.range' 0 48).all (okPc 10) = true := by decide +kernel
theorem oc_10_1 : (List.range' 48 7).all (okPc 10) = true := by decide +kernel
theorem oc_10 : ∀ pc, okPc 10 pc = true := by
  intro pc
  rcases (show (0 ≤ pc ∧ pc < 48) ∨ (48 ≤ pc ∧ pc < 55) ∨ 55 ≤ pc by omega) with h | h | h
  · exact List.all_eq_true.mp oc_10_0 pc (List.mem_range'_1.mpr (by omega))
  · exact List.all_eq_true.mp oc_10_1 pc (List.mem_range'_1.mpr (by omega))
  · exact okPc_big (Nat.le_trans (Nat.le_of_ble_eq_true (by decide +kernel)) h)
theorem oc_11_0 : (List.range' 0 16).all (okPc 11) = true := by decide +kernel
theorem oc_11 : ∀ pc, okPc 11 pc = true := by
  intro pc
  rcases (show (0 ≤ pc ∧ pc < 16) ∨ 16 ≤ pc by omega) with h | h
  · exact List.all_eq_true.mp oc_11_0 pc (List.mem_range'_1.mpr (by omega))
  · exact okPc_big (Nat.le_trans (Nat.le_of_ble_eq_true (by decide +kernel)) h)
theorem oc_12_0 : (List.range' 0 16).all (okPc 12) = true := by decide +kernel
theorem oc_12 : ∀ pc, okPc 12 pc = true := by
  intro pc
  rcases (show (0 ≤ pc ∧ pc < 16) ∨ 16 ≤ pc by omega) with h | h
  · exact List.all_eq_true.mp oc_12_0 pc (List.mem_range'_1.mpr (by omega))
  · exact okPc_big (Nat.le_trans (Nat.le_of_ble_eq_true (by decide +kernel)) h)
theorem oc_13_0 : (List.range' 0 31).all (okPc 13) = true := by decide +kernel
theorem oc_13 : ∀ pc, okPc 13 pc = true := by
  intro pc
  rcases (show (0 ≤ pc ∧ pc < 31) ∨ 31 ≤ pc by omega) with h | h
  · exact List.all_eq_true.mp oc_13_0 pc (List.mem_range'_1.mpr (by omega))
  · exact okPc_big (Nat.le_trans (Nat.le_of_ble_eq_true (by decide +kernel)) h)
theorem oc_14_0 : (List.range' 0 48).all (okPc 14) = true := by decide +kernel
theorem oc_14_1 : (List.range' 48 43).all (okPc 14) = true := by decide +kernel
theorem oc_14 : ∀ pc, okPc 14 pc = true := by
  intro pc
  rcases (show (0 ≤ pc ∧ pc < 48) ∨ (48 ≤ pc ∧ pc < 91) ∨ 91 ≤ pc by omega) with h | h | h
  · exact List.all_eq_true.mp oc_14_0 pc (List.mem_range'_1.mpr (by omega))
  · exact List.all_eq_true.mp oc_14_1 pc (List.mem_range'_1.mpr (by omega))
  · exact okPc_big (Nat.le_trans (Nat.le_of_ble_eq_true (by decide +kernel)) h)
theorem oc_15_0 : (List.range' 0 48).all (okPc 15) = true := by decide +kernel
theorem oc_15_1 : (List.range' 48 19).all (okPc 15) = true := by decide +kernel
theorem oc_15 : ∀ pc, okPc 15 pc = true := by
  intro pc
  rcases (show (0 ≤ pc ∧ pc < 48) ∨ (48 ≤ pc ∧ pc < 67) ∨ 67 ≤ pc by omega) with h | h | h
  · exact List.all_eq_true.mp oc_15_0 pc (List.mem_range'_1.mpr (by omega))
  · exact List.all_eq_true.mp oc_15_1 pc (List.mem_range'_1.mpr (by omega))
  · exact okPc_big (Nat.le_trans (Nat.le_of_ble_eq_true (by decide +kernel)) h)
theorem oc_16_0 : (List.range' 0 16).all (okPc 16) = true := by decide +kernel
theorem oc_16 : ∀ pc, okPc 16 pc = true := by
  intro pc
  rcases (show (0 ≤ pc ∧ pc < 16) ∨ 16 ≤ pc by omega) with h | h
  · exact List.all_eq_true.mp oc_16_0 pc (List.mem_range'_1.mpr (by omega))
  · exact okPc_big (Nat.le_trans (Nat.le_of_ble_eq_true (by decide +kernel)) h)
theorem oc_17_0 : (List.range' 0 48).all (okPc 17) = true := by decide +kernel
theorem oc_17_1 : (List.range' 48 13).all (okPc 17) = true := by decide +kernel
theorem oc_17 : ∀ pc, okPc 17 pc = true := by
  intro pc
  rcases (show (0 ≤ pc ∧ pc < 48) ∨ (48 ≤ pc ∧ pc < 61) ∨ 61 ≤ pc by omega) with h | h | h
  · exact List.all_eq_true.mp oc_17_0 pc (List.mem_range'_1.mpr (by omega))
  · exact List.all_eq_true.mp oc_17_1 pc (List.mem_range'_1.mpr (by omega))
  · exact okPc_big (Nat.le_trans (Nat.le_of_ble_eq_true (by decide +kernel)) h)
theorem oc_18_0 : (List.range' 0 41).all (okPc 18) = true := by decide +kernel
theorem oc_18 : ∀ pc, okPc 18 pc = true := by
  intro pc
  rcases (show (0 ≤ pc ∧ pc < 41) ∨ 41 ≤ pc by omega) with h | h
  · exact List.all_eq_true.mp oc_18_0 pc (List.mem_range'_1.mpr (by omega))
  · exact okPc_big (Nat.le_trans (Nat.le_of_ble_eq_true (by decide +kernel)) h)
theorem oc_19_0 : (List.range' 0 40).all (okPc 19) = true := by decide +kernel
theorem oc_19 : ∀ pc, okPc 19 pc = true := by
  intro pc
  rcases (show (0 ≤ pc ∧ pc < 40) ∨ 40 ≤ pc by omega) with h | h
  · exact List.all_eq_true.mp oc_19_0 pc (List.mem_range'_1.mpr (by omega))
  · exact okPc_big (Nat.le_trans (Nat.le_of_ble_eq_true (by decide +kernel)) h)
theorem oc_20_0 : (List.range' 0 48).all (okPc 20) = true := by decide +kernel
theorem oc_20_1 : (List.range' 48 13).all (okPc 20) = true := by decide +kernel
theorem oc_20 : ∀ pc, okPc 20 pc = true := by
  intro pc
  rcases (show (0 ≤ pc ∧ pc < 48) ∨ (48 ≤ pc ∧ pc < 61) ∨ 61 ≤ pc by omega) with h | h | h
  · exact List.all_eq_true.mp oc_20_0 pc (List.mem_range'_1.mpr (by omega))
  · exact List.all_eq_true.mp oc_20_1 pc (List.mem_range'_1.mpr (by omega))
  · exact okPc_big (Nat.le_trans (Nat.le_of_ble_eq_true (by decide +kernel)) h)
theorem oc_21_0 : (List.range' 0 48).all (okPc 21) = true := by decide +kernel
theorem oc_21_1 : (List.range' 48 48).all (okPc 21) = true := by decide +kernel
theorem oc_21_2 : (List.range' 96 8).all (okPc 21) = true := by decide +kernel
theorem oc_21 : ∀ pc, okPc 21 pc = true := by
  intro pc
  rcases (show (0 ≤ pc ∧ pc < 48) ∨ (48 ≤ pc ∧ pc < 96) ∨ (96 ≤ pc ∧ pc < 104) ∨ 104 ≤ pc by omega) with h | h | h | h
  · exact List.all_eq_true.mp oc_21_0 pc (List.mem_range'_1.mpr (by omega))
  · exact List.all_eq_true.mp oc_21_1 pc (List.mem_range'_1.mpr (by omega))
  · exact List.all_eq_true.mp oc_21_2 pc (List.mem_range'_1.mpr (by omega))
  · exact okPc_big (Nat.le_trans (Nat.le_of_ble_eq_true (by decide +kernel)) h)
theorem oc_22_0 : (List.range' 0 48).all (okPc 22) = true := by decide +kernel
theorem oc_22_1 : (List.range' 48 31).all (okPc 22) = true := by decide +kernel
theorem oc_22 : ∀ pc, okPc 22 pc = true := by
  intro pc
  rcases (show (0 ≤ pc ∧ pc < 48) ∨ (48 ≤ pc ∧ pc < 79) ∨ 79 ≤ pc by omega) with h | h | h
  · exact List.all_eq_true.mp oc_22_0 pc (List.mem_range'_1.mpr (by omega))
  · exact List.all_eq_true.mp oc_22_1 pc (List.mem_range'_1.mpr (by omega))
  · exact okPc_big (Nat.le_trans (Nat.le_of_ble_eq_true (by decide +kernel)) h)
theorem oc_23_0 : (List.range' 0 48).all (okPc 23) = true := by decide +kernel
theorem oc_23 : ∀ pc, okPc 23 pc = true := by
  intro pc
  rcases (show (0 ≤ pc ∧ pc < 48) ∨ 48 ≤ pc by omega) with h | h
  · exact List.all_eq_true.mp oc_23_0 pc (List.mem_range'_1.mpr (by omega))
  · exact okPc_big (Nat.le_trans (Nat.le_of_ble_eq_true (by decide +kernel)) h)
theorem oc_24_0 : (List.range' 0 11).all (okPc 24) = true := by decide +kernel
theorem oc_24 : ∀ pc, okPc 24 pc = true := by
  intro pc
  rcases (show (0 ≤ pc ∧ pc < 11) ∨ 11 ≤ pc by omega) with h | h
  · exact List.all_eq_true.mp oc_24_0 pc (List.mem_range'_1.mpr (by omega))
  · exact okPc_big (Nat.le_trans (Nat.le_of_ble_eq_true (by decide +kernel)) h)
theorem oc_25_0 : (List.range' 0 13).all (okPc 25) = true := by decide +kernel
theorem oc_25 : ∀ pc, okPc 25 pc = true := by
  intro pc
  rcases (show (0 ≤ pc ∧ pc < 13) ∨ 13 ≤ pc by omega) with h | h
  · exact List.all_eq_true.mp oc_25_0 pc (List.mem_range'_1.mpr (by omega))
  · exact okPc_big (Nat.le_trans (Nat.le_of_ble_eq_true (by decide +kernel)) h)
theorem oc_26_0 : (List.range' 0 14).all (okPc 26) = true := by decide +kernel
theorem oc_26 : ∀ pc, okPc 26 pc = true := by
  intro pc
  rcases (show (0 ≤ pc ∧ pc < 14) ∨ 14 ≤ pc by omega) with h | h
  · exact List.all_eq_true.mp oc_26_0 pc (List.mem_range'_1.mpr (by omega))
  · exact okPc_big (Nat.le_trans (Nat.le_of_ble_eq_true (by decide +kernel)) h)
theorem oc_27_0 : (List.range' 0 14).all (okPc 27) = true := by decide +kernel
theorem oc_27 : ∀ pc, okPc 27 pc = true := by
  intro pc
  rcases (show (0 ≤ pc ∧ pc < 14) ∨ 14 ≤ pc by omega) with h | h
  · exact List.all_eq_true.mp oc_27_0 pc (List.mem_range'_1.mpr (by omega))
  · exact okPc_big (Nat.le_trans (Nat.le_of_ble_eq_true (by decide +kernel)) h)
theorem oc_28_0 : (List.range' 0 35).all (okPc 28) = true := by decide +kernel
theorem oc_28 : ∀ pc, okPc 28 pc = true := by
  intro pc
  rcases (show (0 ≤ pc ∧ pc < 35) ∨ 35 ≤ pc by omega) with h | h
  · exact List.all_eq_true.mp oc_28_0 pc (List.mem_range'_1.mpr (by omega))
  · exact okPc_big (Nat.le_trans (Nat.le_of_ble_eq_true (by decide +kernel)) h)
theorem oc_29_0 : (List.range' 0 20).all (okPc 29) = true := by decide +kernel
theorem oc_29 : ∀ pc, okPc 29 pc = true := by
  intro pc
  rcases (show (0 ≤ pc ∧ pc < 20) ∨ 20 ≤ pc by omega) with h | h
  · exact List.all_eq_true.mp oc_29_0 pc (List.mem_range'_1.mpr (by omega))
  · exact okPc_big (Nat.le_trans (Nat.le_of_ble_eq_true (by decide +kernel)) h)
theorem oc_30_0 : (List.range' 0 15).all (okPc 30) = true := by decide +kernel
theorem oc_30 : ∀ pc, okPc 30 pc = true := by
  intro pc
  rcases (show (0 ≤ pc ∧ pc < 15) ∨ 15 ≤ pc by omega) with h | h
  · exact List.all_eq_true.mp oc_30_0 pc (List.mem_range'_1.mpr (by omega))
  · exact okPc_big (Nat.le_trans (Nat.le_of_ble_eq_true (by decide +kernel)) h)
theorem oc_31_0 : (List.range' 0 19).all (okPc 31) = true := by decide +kernel
theorem oc_31 : ∀ pc, okPc 31 pc = true := by
  intro pc
  rcases (show (0 ≤ pc ∧ pc < 19) ∨ 19 ≤ pc by omega) with h | h
  · exact List.all_eq_true.mp oc_31_0 pc (List.mem_range'_1.mpr (by omega))
  · exact okPc_big (Nat.le_trans (Nat.le_of_ble_eq_true (by decide +kernel)) h)
theorem oc_32_0 : (List.range' 0 19).all (okPc 32) = true := by decide +kernel
theorem oc_32 : ∀ pc, okPc 32 pc = true := by
  intro pc
  rcases (show (0 ≤ pc ∧ pc < 19) ∨ 19 ≤ pc by omega) with h | h
  · exact List.all_eq_true.mp oc_32_0 pc (List.mem_range'_1.mpr (by omega))
  · exact okPc_big (Nat.le_trans (Nat.le_of_ble_eq_true (by decide +kernel)) h)
theorem oc_33_0 : (List.range' 0 19).all (okPc 33) = true := by decide +kernel
theorem oc_33 : ∀ pc, okPc 33 pc = true := by
  intro pc
  rcases (show (0 ≤ pc ∧ pc < 19) ∨ 19 ≤ pc by omega) with h | h
  · exact List.all_eq_true.mp oc_33_0 pc (List.mem_range'_1.mpr (by omega))
  · exact okPc_big (Nat.le_trans (Nat.le_of_ble_eq_true (by decide +kernel)) h)
theorem oc_34_0 : (List.range' 0 19).all (okPc 34) = true := by decide +kernel
theorem oc_34 : ∀ pc, okPc 34 pc = true := by
  intro pc
  rcases (show (0 ≤ pc ∧ pc < 19) ∨ 19 ≤ pc by omega) with h | h
  · exact List.all_eq_true.mp oc_34_0 pc (List.mem_range'_1.mpr (by omega))
  · exact okPc_big (Nat.le_trans (Nat.le_of_ble_eq_true (by decide +kernel)) h)
theorem oc_35_0 : (List.range' 0 37).all (okPc 35) = true := by decide +kernel
theorem oc_35 : ∀ pc, okPc 35 pc = true := by
  intro pc
  rcases (show (0 ≤ pc ∧ pc < 37) ∨ 37 ≤ pc by omega) with h | h
  · exact List.all_eq_true.mp oc_35_0 pc (List.mem_range'_1.mpr (by omega))
  · exact okPc_big (Nat.le_trans (Nat.le_of_ble_eq_true (by decide +kernel)) h)
theorem oc_36_0 : (List.range' 0 48).all (okPc 36) = true := by decide +kernel
theorem oc_36_1 : (List.range' 48 4).all (okPc 36) = true := by decide +kernel
theorem oc_36 : ∀ pc, okPc 36 pc = true := by
  intro pc
  rcases (show (0 ≤ pc ∧ pc < 48) ∨ (48 ≤ pc ∧ pc < 52) ∨ 52 ≤ pc by omega) with h | h | h
  · exact List.all_eq_true.mp oc_36_0 pc (List.mem_range'_1.mpr (by omega))
  · exact List.all_eq_true.mp oc_36_1 pc (List.mem_range'_1.mpr (by omega))
  · exact okPc_big (Nat.le_trans (Nat.le_of_ble_eq_true (by decide +kernel)) h)
theorem oc_37_0 : (List.range' 0 34).all (okPc 37) = true := by decide +kernel
theorem oc_37 : ∀ pc, okPc 37 pc = true := by
  intro pc
  rcases (show (0 ≤ pc ∧ pc < 34) ∨ 34 ≤ pc by omega) with h | h
  · exact List.all_eq_true.mp oc_37_0 pc (List.mem_range'_1.mpr (by omega))
  · exact okPc_big (Nat.le_trans (Nat.le_of_ble_eq_true (by decide +kernel)) h)
theorem oc_38_0 : (List.range' 0 48).all (okPc 38) = true := by decide +kernel
theorem oc_38_1 : (List.range' 48 48).all (okPc 38) = true := by decide +kernel
theorem oc_38_2 : (List.range' 96 26).all (okPc 38) = true := by decide +kernel
theorem oc_38 : ∀ pc, okPc 38 pc = true := by
  intro pc
  rcases (show (0 ≤ pc ∧ pc < 48) ∨ (48 ≤ pc ∧ pc < 96) ∨ (96 ≤ pc ∧ pc < 122) ∨ 122 ≤ pc by omega) with h | h | h | h
  · exact List.all_eq_true.mp oc_38_0 pc (List.mem_range'_1.mpr (by omega))
  · exact List.all_eq_true.mp oc_38_1 pc (List.mem_range'_1.mpr (by omega))
  · exact List.all_eq_true.mp oc_38_2 pc (List.mem_range'_1.mpr (by omega))
  · exact okPc_big (Nat.le_trans (Nat.le_of_ble_eq_true (by decide +kernel)) h)
theorem oc_39_0 : (List.range' 0 48).all (okPc 39) = true := by decide +kernel
theorem oc_39_1 : (List.range' 48 32).all (okPc 39) = true := by decide +kernel
theorem oc_39 : ∀ pc, okPc 39 pc = true := by
  intro pc
  rcases (show (0 ≤ pc ∧ pc < 48) ∨ (48 ≤ pc ∧ pc < 80) ∨ 80 ≤ pc by omega) with h | h | h
  · exact List.all_eq_true.mp oc_39_0 pc (List.mem_range'_1.mpr (by omega))
  · exact List.all_eq_true.mp oc_39_1 pc (List.mem_range'_1.mpr (by omega))
  · exact okPc_big (Nat.le_trans (Nat.le_of_ble_eq_true (by decide +kernel)) h)
theorem oc_40_0 : (List.range' 0 48).all (okPc 40) = true := by decide +kernel
theorem oc_40_1 : (List.range' 48 48).all (okPc 40) = true := by decide +kernel
theorem oc_40_2 : (List.range' 96 5).all (okPc 40) = true := by decide +kernel
theorem oc_40 : ∀ pc, okPc 40 pc = true := by
  intro pc
  rcases (show (0 ≤ pc ∧ pc < 48) ∨ (48 ≤ pc ∧ pc < 96) ∨ (96 ≤ pc ∧ pc < 101) ∨ 101 ≤ pc by omega) with h | h | h | h
  · exact List.all_eq_true.mp oc_40_0 pc (List.mem_range'_1.mpr (by omega))
  · exact List.all_eq_true.mp oc_40_1 pc (List.mem_range'_1.mpr (by omega))
  · exact List.all_eq_true.mp oc_40_2 pc (List.mem_range'_1.mpr (by omega))
  · exact okPc_big (Nat.le_trans (Nat.le_of_ble_eq_true (by decide +kernel)) h)
theorem oc_41_0 : (List.range' 0 23).all (okPc 41) = true := by decide +kernel
theorem oc_41 : ∀ pc, okPc 41 pc = true := by
  intro pc
  rcases (show (0 ≤ pc ∧ pc < 23) ∨ 23 ≤ pc by omega) with h | h
  · exact List.all_eq_true.mp oc_41_0 pc (List.mem_range'_1.mpr (by omega))
  · exact okPc_big (Nat.le_trans (Nat.le_of_ble_eq_true (by decide +kernel)) h)
theorem oc_42_0 : (List.range' 0 18).all (okPc 42) = true := by decide +kernel
theorem oc_42 : ∀ pc, okPc 42 pc = true := by
  intro pc
  rcases (show (0 ≤ pc ∧ pc < 18) ∨ 18 ≤ pc by omega) with h | h
  · exact List.all_eq_true.mp oc_42_0 pc (List.mem_range'_1.mpr (by omega))
  · exact okPc_big (Nat.le_trans (Nat.le_of_ble_eq_true (by decide +kernel)) h)
theorem oc_43_0 : (List.range' 0 6).all (okPc 43) = true := by decide +kernel
theorem oc_43 : ∀ pc, okPc 43 pc = true := by
  intro pc
  rcases (show (0 ≤ pc ∧ pc < 6) ∨ 6 ≤ pc by omega) with h | h
  · exact List.all_eq_true.mp oc_43_0 pc (List.mem_range'_1.mpr (by omega))
  · exact okPc_big (Nat.le_trans (Nat.le_of_ble_eq_true (by decide +kernel)) h)
theorem oc_44_0 : (List.range' 0 5).all (okPc 44) = true := by decide +kernel
theorem oc_44 : ∀ pc, okPc 44 pc = true := by
  intro pc
  rcases (show (0 ≤ pc ∧ pc < 5) ∨ 5 ≤ pc by omega) with h | h
  · exact List.all_eq_true.mp oc_44_0 pc (List.mem_range'_1.mpr (by omega))
  · exact okPc_big (Nat.le_trans (Nat.le_of_ble_eq_true (by decide +kernel)) h)
theorem oc_45_0 : (List.range' 0 32).all (okPc 45) = true := by decide +kernel
theorem oc_45 : ∀ pc, okPc 45 pc = true := by
  intro pc
  rcases (show (0 ≤ pc ∧ pc < 32) ∨ 32 ≤ pc by omega) with h | h
  · exact List.all_eq_true.mp oc_45_0 pc (List.mem_range'_1.mpr (by omega))
  · exact okPc_big (Nat.le_trans (Nat.le_of_ble_eq_true (by decide +kernel)) h)
theorem oc_46_0 : (List.range' 0 40).all (okPc 46) = true := by decide +kernel
theorem oc_46 : ∀ pc, okPc 46 pc = true := by
  intro pc
  rcases (show (0 ≤ pc ∧ pc < 40) ∨ 40 ≤ pc by omega) with h | h
  · exact List.all_eq_true.mp oc_46_0 pc (List.mem_range'_1.mpr (by omega))
  · exact okPc_big (Nat.le_trans (Nat.le_of_ble_eq_true (by decide +kernel)) h)
theorem oc_47_0 : (List.range' 0 48).all (okPc 47) = true := by decide +kernel
theorem oc_47_1 : (List.range' 48 6).all (okPc 47) = true := by decide +kernel
theorem oc_47 : ∀ pc, okPc 47 pc = true := by
  intro pc
  rcases (show (0 ≤ pc ∧ pc < 48) ∨ (48 ≤ pc ∧ pc < 54) ∨ 54 ≤ pc by omega) with h | h | h
  · exact List.all_eq_true.mp oc_47_0 pc (List.mem_range'_1.mpr (by omega))
  · exact List.all_eq_true.mp oc_47_1 pc (List.mem_range'_1.mpr (by omega))
  · exact okPc_big (Nat.le_trans (Nat.le_of_ble_eq_true (by decide +kernel)) h)
theorem oc_48_0 : (List.range' 0 16).all (okPc 48) = true := by decide +kernel
theorem oc_48 : ∀ pc, okPc 48 pc = true := by
  intro pc
  rcases (show (0 ≤ pc ∧ pc < 16) ∨ 16 ≤ pc by omega) with h | h
  · exact List.all_eq_true.mp oc_48_0 pc (List.mem_range'_1.mpr (by omega))
  · exact okPc_big (Nat.le_trans (Nat.le_of_ble_eq_true (by decide +kernel)) h)
theorem oc_49_0 : (List.range' 0 11).all (okPc 49) = true := by decide +kernel
theorem oc_49 : ∀ pc, okPc 49 pc = true := by
  intro pc
  rcases (show (0 ≤ pc ∧ pc < 11) ∨ 11 ≤ pc by omega) with h | h
  · exact List.all_eq_true.mp oc_49_0 pc (List.mem_range'_1.mpr (by omega))
  · exact okPc_big (Nat.le_trans (Nat.le_of_ble_eq_true (by decide +kernel)) h)
theorem oc_50_0 : (List.range' 0 16).all (okPc 50) = true := by decide +kernel
theorem oc_50 : ∀ pc, okPc 50 pc = true := by
  intro pc
  rcases (show (0 ≤ pc ∧ pc < 16) ∨ 16 ≤ pc by omega) with h | h
  · exact List.all_eq_true.mp oc_50_0 pc (List.mem_range'_1.mpr (by omega))
  · exact okPc_big (Nat.le_trans (Nat.le_of_ble_eq_true (by decide +kernel)) h)
theorem oc_51_0 : (List.range' 0 6).all (okPc 51) = true := by decide +kernel
theorem oc_51 : ∀ pc, okPc 51 pc = true := by
  intro pc
  rcases (show (0 ≤ pc ∧ pc < 6) ∨ 6 ≤ pc by omega) with h | h
  · exact List.all_eq_true.mp oc_51_0 pc (List.mem_range'_1.mpr (by omega))
  · exact okPc_big (Nat.le_trans (Nat.le_of_ble_eq_true (by decide +kernel)) h)
theorem oc_52_0 : (List.range' 0 44).all (okPc 52) = true := by decide +kernel
theorem oc_52 : ∀ pc, okPc 52 pc = true := by
  intro pc
  rcases (show (0 ≤ pc ∧ pc < 44) ∨ 44 ≤ pc by omega) with h | h
  · exact List.all_eq_true.mp oc_52_0 pc (List.mem_range'_1.mpr (by omega))
  · exact okPc_big (Nat.le_trans (Nat.le_of_ble_eq_true (by decide +kernel)) h)
end
section
theorem oc_53_0 : (List.range' 0 48).all (okPc 53) = true := by decide +kernel
theorem oc_53_1 : (List.range' 48 48).all (okPc 53) = true := by decide +kernel
theorem oc_53_2 : (List.range' 96 9).all (okPc 53) = true := by decide +kernel
theorem oc_53 : ∀ pc, okPc 53 pc = true := by
  intro pc
  rcases (show (0 ≤ pc ∧ pc < 48) ∨ (48 ≤ pc ∧ pc < 96) ∨ (96 ≤ pc ∧ pc < 105) ∨ 105 ≤ pc by omega) with h | h | h | h
  · exact List.all_eq_true.mp oc_53_0 pc (List.mem_range'_1.mpr (by omega))
  · exact List.all_eq_true.mp oc_53_1 pc (List.mem_range'_1.mpr (by omega))
  · exact List.all_eq_true.mp oc_53_2 pc (List.mem_range'_1.mpr (by omega))
  · exact okPc_big (Nat.le_trans (Nat.le_of_ble_eq_true (by decide +kernel)) h)
theorem oc_54_0 : (List.range' 0 9).all (okPc 54) = true := by decide +kernel
theorem oc_54 : ∀ pc, okPc 54 pc = true := by
  intro pc
  rcases (show (0 ≤ pc ∧ pc < 9) ∨ 9 ≤ pc by omega) with h | h
  · exact List.all_eq_true.mp oc_54_0 pc (List.mem_range'_1.mpr (by omega))
  · exact okPc_big (Nat.le_trans (Nat.le_of_ble_eq_true (by decide +kernel)) h)
theorem oc_55_0 : (List.range' 0 8).all (okPc 55) = true := by decide +kernel
theorem oc_55 : ∀ pc, okPc 55 pc = true := by
  intro pc
  rcases (show (0 ≤ pc ∧ pc < 8) ∨ 8 ≤ pc by omega) with h | h
  · exact List.all_eq_true.mp oc_55_0 pc (List.mem_range'_1.mpr (by omega))
  · exact okPc_big (Nat.le_trans (Nat.le_of_ble_eq_true (by decide +kernel)) h)
theorem oc_56_0 : (List.range' 0 13).all (okPc 56) = true := by decide +kernel
theorem oc_56 : ∀ pc, okPc 56 pc = true := by
  intro pc
  rcases (show (0 ≤ pc ∧ pc < 13) ∨ 13 ≤ pc by omega) with h | h
  · exact List.all_eq_true.mp oc_56_0 pc (List.mem_range'_1.mpr (by omega))
  · exact okPc_big (Nat.le_trans (Nat.le_of_ble_eq_true (by decide +kernel)) h)
theorem oc_57_0 : (List.range' 0 42).all (okPc 57) = true := by decide +kernel
theorem oc_57 : ∀ pc, okPc 57 pc = true := by
  intro pc
  rcases (show (0 ≤ pc ∧ pc < 42) ∨ 42 ≤ pc by omega) with h | h
  · exact List.all_eq_true.mp oc_57_0 pc (List.mem_range'_1.mpr (by omega))
  · exact okPc_big (Nat.le_trans (Nat.le_of_ble_eq_true (by decide +kernel)) h)
theorem oc_58_0 : (List.range' 0 48).all (okPc 58) = true := by decide +kernel
theorem oc_58_1 : (List.range' 48 30).all (okPc 58) = true := by decide +kernel
theorem oc_58 : ∀ pc, okPc 58 pc = true := by
  intro pc
  rcases (show (0 ≤ pc ∧ pc < 48) ∨ (48 ≤ pc ∧ pc < 78) ∨ 78 ≤ pc by omega) with h | h | h
  · exact List.all_eq_true.mp oc_58_0 pc (List.mem_range'_1.mpr (by omega))
  · exact List.all_eq_true.mp oc_58_1 pc (List.mem_range'_1.mpr (by omega))
  · exact okPc_big (Nat.le_trans (Nat.le_of_ble_eq_true (by decide +kernel)) h)
theorem oc_59_0 : (List.range' 0 48).all (okPc 59) = true := by decide +kernel
theorem oc_59_1 : (List.range' 48 48).all (okPc 59) = true := by decide +kernel
theorem oc_59_2 : (List.range' 96 26).all (okPc 59) = true := by decide +kernel
theorem oc_59 : ∀ pc, okPc 59 pc = true := by
  intro pc
  rcases (show (0 ≤ pc ∧ pc < 48) ∨ (48 ≤ pc ∧ pc < 96) ∨ (96 ≤ pc ∧ pc < 122) ∨ 122 ≤ pc by omega) with h | h | h | h
  · exact List.all_eq_true.mp oc_59_0 pc (List.mem_range'_1.mpr (by omega))
  · exact List.all_eq_true.mp oc_59_1 pc (List.mem_range'_1.mpr (by omega))
  · exact List.all_eq_true.mp oc_59_2 pc (List.mem_range'_1.mpr (by omega))
  · exact okPc_big (Nat.le_trans (Nat.le_of_ble_eq_true (by decide +kernel)) h)
theorem oc_60_0 : (List.range' 0 48).all (okPc 60) = true := by decide +kernel
theorem oc_60_1 : (List.range' 48 48).all (okPc 60) = true := by decide +kernel
theorem oc_60_2 : (List.range' 96 20).all (okPc 60) = true := by decide +kernel
theorem oc_60 : ∀ pc, okPc 60 pc = true := by
  intro pc
  rcases (show (0 ≤ pc ∧ pc < 48) ∨ (48 ≤ pc ∧ pc < 96) ∨ (96 ≤ pc ∧ pc < 116) ∨ 116 ≤ pc by omega) with h | h | h | h
  · exact List.all_eq_true.mp oc_60_0 pc (List.mem_range'_1.mpr (by omega))
  · exact List.all_eq_true.mp oc_60_1 pc (List.mem_range'_1.mpr (by omega))
  · exact List.all_eq_true.mp oc_60_2 pc (List.mem_range'_1.mpr (by omega))
  · exact okPc_big (Nat.le_trans (Nat.le_of_ble_eq_true (by decide +kernel)) h)
theorem oc_61_0 : (List.range' 0 48).all (okPc 61) = true := by decide +kernel
theorem oc_61_1 : (List.range' 48 48).all (okPc 61) = true := by decide +kernel
theorem oc_61 : ∀ pc, okPc 61 pc = true := by
  intro pc
  rcases (show (0 ≤ pc ∧ pc < 48) ∨ (48 ≤ pc ∧ pc < 96) ∨ 96 ≤ pc by omega) with h | h | h
  · exact List.all_eq_true.mp oc_61_0 pc (List.mem_range'_1.mpr (by omega))
  · exact List.all_eq_true.mp oc_61_1 pc (List.mem_range'_1.mpr (by omega))
  · exact okPc_big (Nat.le_trans (Nat.le_of_ble_eq_true (by decide +kernel)) h)
theorem oc_62_0 : (List.range' 0 48).all (okPc 62) = true := by decide +kernel
theorem oc_62_1 : (List.range' 48 48).all (okPc 62) = true := by decide +kernel
theorem oc_62_2 : (List.range' 96 35).all (okPc 62) = true := by decide +kernel
theorem oc_62 : ∀ pc, okPc 62 pc = true := by
  intro pc
  rcases (show (0 ≤ pc ∧ pc < 48) ∨ (48 ≤ pc ∧ pc < 96) ∨ (96 ≤ pc ∧ pc < 131) ∨ 131 ≤ pc by omega) with h | h | h | h
  · exact List.all_eq_true.mp oc_62_0 pc (List.mem_range'_1.mpr (by omega))
  · exact List.all_eq_true.mp oc_62_1 pc (List.mem_range'_1.mpr (by omega))
  · exact List.all_eq_true.mp oc_62_2 pc (List.mem_range'_1.mpr (by omega))
  · exact okPc_big (Nat.le_trans (Nat.le_of_ble_eq_true (by decide +kernel)) h)
theorem oc_63_0 : (List.range' 0 26).all (okPc 63) = true := by decide +kernel
theorem oc_63 : ∀ pc, okPc 63 pc = true := by
  intro pc
  rcases (show (0 ≤ pc ∧ pc < 26) ∨ 26 ≤ pc by omega) with h | h
  · exact List.all_eq_true.mp oc_63_0 pc (List.mem_range'_1.mpr (by omega))
  · exact okPc_big (Nat.le_trans (Nat.le_of_ble_eq_true (by decide +kernel)) h)
theorem oc_64_0 : (List.range' 0 48).all (okPc 64) = true := by decide +kernel
theorem oc_64_1 : (List.range' 48 3).all (okPc 64) = true := by decide +kernel
theorem oc_64 : ∀ pc, okPc 64 pc = true := by
  intro pc
  rcases (show (0 ≤ pc ∧ pc < 48) ∨ (48 ≤ pc ∧ pc < 51) ∨ 51 ≤ pc by omega) with h | h | h
  · exact List.all_eq_true.mp oc_64_0 pc (List.mem_range'_1.mpr (by omega))
  · exact List.all_eq_true.mp oc_64_1 pc (List.mem_range'_1.mpr (by omega))
  · exact okPc_big (Nat.le_trans (Nat.le_of_ble_eq_true (by decide +kernel)) h)
theorem oc_65_0 : (List.range' 0 45).all (okPc 65) = true := by decide +kernel
theorem oc_65 : ∀ pc, okPc 65 pc = true := by
  intro pc
  rcases (show (0 ≤ pc ∧ pc < 45) ∨ 45 ≤ pc by omega) with h | h
  · exact List.all_eq_true.mp oc_65_0 pc (List.mem_range'_1.mpr (by omega))
  · exact okPc_big (Nat.le_trans (Nat.le_of_ble_eq_true (by decide +kernel)) h)
theorem oc_66_0 : (List.range' 0 48).all (okPc 66) = true := by decide +kernel
theorem oc_66 : ∀ pc, okPc 66 pc = true := by
  intro pc
  rcases (show (0 ≤ pc ∧ pc < 48) ∨ 48 ≤ pc by omega) with h | h
  · exact List.all_eq_true.mp oc_66_0 pc (List.mem_range'_1.mpr (by omega))
  · exact okPc_big (Nat.le_trans (Nat.le_of_ble_eq_true (by decide +kernel)) h)
theorem oc_67_0 : (List.range' 0 48).all (okPc 67) = true := by decide +kernel
theorem oc_67_1 : (List.range' 48 3).all (okPc 67) = true := by decide +kernel
theorem oc_67 : ∀ pc, okPc 67 pc = true := by
  intro pc
  rcases (show (0 ≤ pc ∧ pc < 48) ∨ (48 ≤ pc ∧ pc < 51) ∨ 51 ≤ pc by omega) with h | h | h
  · exact List.all_eq_true.mp oc_67_0 pc (List.mem_range'_1.mpr (by omega))
  · exact List.all_eq_true.mp oc_67_1 pc (List.mem_range'_1.mpr (by omega))
  · exact okPc_big (Nat.le_trans (Nat.le_of_ble_eq_true (by decide +kernel)) h)
theorem oc_68_0 : (List.range' 0 42).all (okPc 68) = true := by decide +kernel
theorem oc_68 : ∀ pc, okPc 68 pc = true := by
  intro pc
  rcases (show (0 ≤ pc ∧ pc < 42) ∨ 42 ≤ pc by omega) with h | h
  · exact List.all_eq_true.mp oc_68_0 pc (List.mem_range'_1.mpr (by omega))
  · exact okPc_big (Nat.le_trans (Nat.le_of_ble_eq_true (by decide +kernel)) h)
theorem oc_69_0 : (List.range' 0 10).all (okPc 69) = true := by decide +kernel
theorem oc_69 : ∀ pc, okPc 69 pc = true := by
  intro pc
  rcases (show (0 ≤ pc ∧ pc < 10) ∨ 10 ≤ pc by omega) with h | h
  · exact List.all_eq_true.mp oc_69_0 pc (List.mem_range'_1.mpr (by omega))
  · exact okPc_big (Nat.le_trans (Nat.le_of_ble_eq_true (by decide +kernel)) h)
theorem oc_70_0 : (List.range' 0 9).all (okPc 70) = true := by decide +kernel
theorem oc_70 : ∀ pc, okPc 70 pc = true := by
  intro pc
  rcases (show (0 ≤ pc ∧ pc < 9) ∨ 9 ≤ pc by omega) with h | h
  · exact List.all_eq_true.mp oc_70_0 pc (List.mem_range'_1.mpr (by omega))
  · exact okPc_big (Nat.le_trans (Nat.le_of_ble_eq_true (by decide +kernel)) h)
theorem oc_71_0 : (List.range' 0 8).all (okPc 71) = true := by decide +kernel
theorem oc_71 : ∀ pc, okPc 71 pc = true := by
  intro pc
  rcases (show (0 ≤ pc ∧ pc < 8) ∨ 8 ≤ pc by omega) with h | h
  · exact List.all_eq_true.mp oc_71_0 pc (List.mem_range'_1.mpr (by omega))
  · exact okPc_big (Nat.le_trans (Nat.le_of_ble_eq_true (by decide +kernel)) h)
theorem oc_72_0 : (List.range' 0 27).all (okPc 72) = true := by decide +kernel
theorem oc_72 : ∀ pc, okPc 72 pc = true := by
  intro pc
  rcases (show (0 ≤ pc ∧ pc < 27) ∨ 27 ≤ pc by omega) with h | h
  · exact List.all_eq_true.mp oc_72_0 pc (List.mem_range'_1.mpr (by omega))
  · exact okPc_big (Nat.le_trans (Nat.le_of_ble_eq_true (by decide +kernel)) h)
theorem oc_73_0 : (List.range' 0 23).all (okPc 73) = true := by decide +kernel
theorem oc_73 : ∀ pc, okPc 73 pc = true := by
  intro pc
  rcases (show (0 ≤ pc ∧ pc < 23) ∨ 23 ≤ pc by omega) with h | h
  · exact List.all_eq_true.mp oc_73_0 pc (List.mem_range'_1.mpr (by omega))
  · exact okPc_big (Nat.le_trans (Nat.le_of_ble_eq_true (by decide +kernel)) h)
theorem oc_74_0 : (List.range' 0 17).all (okPc 74) = true := by decide +kernel
theorem oc_74 : ∀ pc, okPc 74 pc = true := by
  intro pc
  rcases (show (0 ≤ pc ∧ pc < 17) ∨ 17 ≤ pc by omega) with h | h
  · exact List.all_eq_true.mp oc_74_0 pc (List.mem_range'_1.mpr (by omega))
  · exact okPc_big (Nat.le_trans (Nat.le_of_ble_eq_true (by decide +kernel)) h)
theorem oc_75_0 : (List.range' 0 16).all (okPc 75) = true := by decide +kernel
theorem oc_75 : ∀ pc, okPc 75 pc = true := by
  intro pc
  rcases (show (0 ≤ pc ∧ pc < 16) ∨ 16 ≤ pc by omega) with h | h
  · exact List.all_eq_true.mp oc_75_0 pc (List.mem_range'_1.mpr (by omega))
  · exact okPc_big (Nat.le_trans (Nat.le_of_ble_eq_true (by decide +kernel)) h)
theorem oc_76_0 : (List.range' 0 18).all (okPc 76) = true := by decide +kernel
theorem oc_76 : ∀ pc, okPc 76 pc = true := by
  intro pc
  rcases (show (0 ≤ pc ∧ pc < 18) ∨ 18 ≤ pc by omega) with h | h
  · exact List.all_eq_true.mp oc_76_0 pc (List.mem_range'_1.mpr (by omega))
  · exact okPc_big (Nat.le_trans (Nat.le_of_ble_eq_true (by decide +kernel)) h)
theorem oc_77_0 : (List.range' 0 27).all (okPc 77) = true := by decide +kernel
theorem oc_77 : ∀ pc, okPc 77 pc = true := by
  intro pc
  rcases (show (0 ≤ pc ∧ pc < 27) ∨ 27 ≤ pc by omega) with h | h
  · exact List.all_eq_true.mp oc_77_0 pc (List.mem_range'_1.mpr (by omega))
  · exact okPc_big (Nat.le_trans (Nat.le_of_ble_eq_true (by decide +kernel)) h)
theorem oc_78_0 : (List.range' 0 17).all (okPc 78) = true := by decide +kernel
theorem oc_78 : ∀ pc, okPc 78 pc = true := by
  intro pc
  rcases (show (0 ≤ pc ∧ pc < 17) ∨ 17 ≤ pc by omega) with h | h
  · exact List.all_eq_true.mp oc_78_0 pc (List.mem_range'_1.mpr (by omega))
  · exact okPc_big (Nat.le_trans (Nat.le_of_ble_eq_true (by decide +kernel)) h)
theorem oc_79_0 : (List.range' 0 27).all (okPc 79) = true := by decide +kernel
theorem oc_79 : ∀ pc, okPc 79 pc = true := by
  intro pc
  rcases (show (0 ≤ pc ∧ pc < 27) ∨ 27 ≤ pc by omega) with h | h
  · exact List.all_eq_true.mp oc_79_0 pc (List.mem_range'_1.mpr (by omega))
  · exact okPc_big (Nat.le_trans (Nat.le_of_ble_eq_true (by decide +kernel)) h)
theorem oc_80_0 : (List.range' 0 29).all (okPc 80) = true := by decide +kernel
theorem oc_80 : ∀ pc, okPc 80 pc = true := by
  intro pc
  rcases (show (0 ≤ pc ∧ pc < 29) ∨ 29 ≤ pc by omega) with h | h
  · exact List.all_eq_true.mp oc_80_0 pc (List.mem_range'_1.mpr (by omega))
  · exact okPc_big (Nat.le_trans (Nat.le_of_ble_eq_true (by decide +kernel)) h)
theorem oc_81_0 : (List.range' 0 48).all (okPc 81) = true := by decide +kernel
theorem oc_81_1 : (List.range' 48 48).all (okPc 81) = true := by decide +kernel
theorem oc_81_2 : (List.range' 96 48).all (okPc 81) = true := by decide +kernel
theorem oc_81_3 : (List.range' 144 10).all (okPc 81) = true := by decide +kernel
theorem oc_81 : ∀ pc, okPc 81 pc = true := by
  intro pc
  rcases (show (0 ≤ pc ∧ pc < 48) ∨ (48 ≤ pc ∧ pc < 96) ∨ (96 ≤ pc ∧ pc < 144) ∨ (144 ≤ pc ∧ pc < 154) ∨ 154 ≤ pc by omega) with h | h | h | h | h
  · exact List.all_eq_true.mp oc_81_0 pc (List.mem_range'_1.mpr (by omega))
  · exact List.all_eq_true.mp oc_81_1 pc (List.mem_range'_1.mpr (by omega))
  · exact List.all_eq_true.mp oc_81_2 pc (List.mem_range'_1.mpr (by omega))
  · exact List.all_eq_true.mp oc_81_3 pc (List.mem_range'_1.mpr (by omega))
  · exact okPc_big (Nat.le_trans (Nat.le_of_ble_eq_true (by decide +kernel)) h)
theorem oc_82_0 : (List.range' 0 42).all (okPc 82) = true := by decide +kernel
theorem oc_82 : ∀ pc, okPc 82 pc = true := by
  intro pc
  rcases (show (0 ≤ pc ∧ pc < 42) ∨ 42 ≤ pc by omega) with h | h
  · exact List.all_eq_true.mp oc_82_0 pc (List.mem_range'_1.mpr (by omega))
  · exact okPc_big (Nat.le_trans (Nat.le_of_ble_eq_true (by decide +kernel)) h)
theorem oc_83_0 : (List.range' 0 48).all (okPc 83) = true := by decide +kernel
theorem oc_83_1 : (List.range' 48 39).all (okPc 83) = true := by decide +kernel
theorem oc_83 : ∀ pc, okPc 83 pc = true := by
  intro pc
  rcases (show (0 ≤ pc ∧ pc < 48) ∨ (48 ≤ pc ∧ pc < 87) ∨ 87 ≤ pc by omega) with h | h | h
  · exact List.all_eq_true.mp oc_83_0 pc (List.mem_range'_1.mpr (by omega))
  · exact List.all_eq_true.mp oc_83_1 pc (List.mem_range'_1.mpr (by omega))
  · exact okPc_big (Nat.le_trans (Nat.le_of_ble_eq_true (by decide +kernel)) h)
theorem oc_84_0 : (List.range' 0 48).all (okPc 84) = true := by decide +kernel
theorem oc_84_1 : (List.range' 48 48).all (okPc 84) = true := by decide +kernel
theorem oc_84_2 : (List.range' 96 10).all (okPc 84) = true := by decide +kernel
theorem oc_84 : ∀ pc, okPc 84 pc = true := by
  intro pc
  rcases (show (0 ≤ pc ∧ pc < 48) ∨ (48 ≤ pc ∧ pc < 96) ∨ (96 ≤ pc ∧ pc < 106) ∨ 106 ≤ pc by omega) with h | h | h | h
  · exact List.all_eq_true.mp oc_84_0 pc (List.mem_range'_1.mpr (by omega))
  · exact List.all_eq_true.mp oc_84_1 pc (List.mem_range'_1.mpr (by omega))
  · exact List.all_eq_true.mp oc_84_2 pc (List.mem_range'_1.mpr (by omega))
  · exact okPc_big (Nat.le_trans (Nat.le_of_ble_eq_true (by decide +kernel)) h)
theorem oc_85_0 : (List.range' 0 31).all (okPc 85) = true := by decide +kernel
theorem oc_85 : ∀ pc, okPc 85 pc = true := by
  intro pc
  rcases (show (0 ≤ pc ∧ pc < 31) ∨ 31 ≤ pc by omega) with h | h
  · exact List.all_eq_true.mp oc_85_0 pc (List.mem_range'_1.mpr (by omega))
  · exact okPc_big (Nat.le_trans (Nat.le_of_ble_eq_true (by decide +kernel)) h)
theorem oc_86_0 : (List.range' 0 44).all (okPc 86) = true := by decide +kernel
theorem oc_86 : ∀ pc, okPc 86 pc = true := by
  intro pc
  rcases (show (0 ≤ pc ∧ pc < 44) ∨ 44 ≤ pc by omega) with h | h
  · exact List.all_eq_true.mp oc_86_0 pc (List.mem_range'_1.mpr (by omega))
  · exact okPc_big (Nat.le_trans (Nat.le_of_ble_eq_true (by decide +kernel)) h)
theorem oc_87_0 : (List.range' 0 48).all (okPc 87) = true := by decide +kernel
theorem oc_87_1 : (List.range' 48 48).all (okPc 87) = true := by decide +kernel
theorem oc_87_2 : (List.range' 96 13).all (okPc 87) = true := by decide +kernel
theorem oc_87 : ∀ pc, okPc 87 pc = true := by
  intro pc
  rcases (show (0 ≤ pc ∧ pc < 48) ∨ (48 ≤ pc ∧ pc < 96) ∨ (96 ≤ pc ∧ pc < 109) ∨ 109 ≤ pc by omega) with h | h | h | h
  · exact List.all_eq_true.mp oc_87_0 pc (List.mem_range'_1.mpr (by omega))
  · exact List.all_eq_true.mp oc_87_1 pc (List.mem_range'_1.mpr (by omega))
  · exact List.all_eq_true.mp oc_87_2 pc (List.mem_range'_1.mpr (by omega))
  · exact okPc_big (Nat.le_trans (Nat.le_of_ble_eq_true (by decide +kernel)) h)
end
section
theorem oc_88_0 : (List.range' 0 48).all (okPc 88) = true := by decide +kernel
theorem oc_88_1 : (List.range' 48 42).all (okPc 88) = true := by decide +kernel
theorem oc_88 : ∀ pc, okPc 88 pc = true := by
  intro pc
  rcases (show (0 ≤ pc ∧ pc < 48) ∨ (48 ≤ pc ∧ pc < 90) ∨ 90 ≤ pc by omega) with h | h | h
  · exact List.all_eq_true.mp oc_88_0 pc (List.mem_range'_1.mpr (by omega))
  · exact List.all_eq_true.mp oc_88_1 pc (List.mem_range'_1.mpr (by omega))
  · exact okPc_big (Nat.le_trans (Nat.le_of_ble_eq_true (by decide +kernel)) h)
theorem oc_89_0 : (List.range' 0 19).all (okPc 89) = true := by decide +kernel
theorem oc_89 : ∀ pc, okPc 89 pc = true := by
  intro pc
  rcases (show (0 ≤ pc ∧ pc < 19) ∨ 19 ≤ pc by omega) with h | h
  · exact List.all_eq_true.mp oc_89_0 pc (List.mem_range'_1.mpr (by omega))
  · exact okPc_big (Nat.le_trans (Nat.le_of_ble_eq_true (by decide +kernel)) h)
theorem oc_90_0 : (List.range' 0 5).all (okPc 90) = true := by decide +kernel
theorem oc_90 : ∀ pc, okPc 90 pc = true := by
  intro pc
  rcases (show (0 ≤ pc ∧ pc < 5) ∨ 5 ≤ pc by omega) with h | h
  · exact List.all_eq_true.mp oc_90_0 pc (List.mem_range'_1.mpr (by omega))
  · exact okPc_big (Nat.le_trans (Nat.le_of_ble_eq_true (by decide +kernel)) h)
theorem oc_91_0 : (List.range' 0 11).all (okPc 91) = true := by decide +kernel
theorem oc_91 : ∀ pc, okPc 91 pc = true := by
  intro pc
  rcases (show (0 ≤ pc ∧ pc < 11) ∨ 11 ≤ pc by omega) with h | h
  · exact List.all_eq_true.mp oc_91_0 pc (List.mem_range'_1.mpr (by omega))
  · exact okPc_big (Nat.le_trans (Nat.le_of_ble_eq_true (by decide +kernel)) h)
theorem oc_92_0 : (List.range' 0 48).all (okPc 92) = true := by decide +kernel
theorem oc_92_1 : (List.range' 48 21).all (okPc 92) = true := by decide +kernel
theorem oc_92 : ∀ pc, okPc 92 pc = true := by
  intro pc
  rcases (show (0 ≤ pc ∧ pc < 48) ∨ (48 ≤ pc ∧ pc < 69) ∨ 69 ≤ pc by omega) with h | h | h
  · exact List.all_eq_true.mp oc_92_0 pc (List.mem_range'_1.mpr (by omega))
  · exact List.all_eq_true.mp oc_92_1 pc (List.mem_range'_1.mpr (by omega))
  · exact okPc_big (Nat.le_trans (Nat.le_of_ble_eq_true (by decide +kernel)) h)
theorem oc_93_0 : (List.range' 0 22).all (okPc 93) = true := by decide +kernel
theorem oc_93 : ∀ pc, okPc 93 pc = true := by
  intro pc
  rcases (show (0 ≤ pc ∧ pc < 22) ∨ 22 ≤ pc by omega) with h | h
  · exact List.all_eq_true.mp oc_93_0 pc (List.mem_range'_1.mpr (by omega))
  · exact okPc_big (Nat.le_trans (Nat.le_of_ble_eq_true (by decide +kernel)) h)
theorem oc_94_0 : (List.range' 0 48).all (okPc 94) = true := by decide +kernel
theorem oc_94_1 : (List.range' 48 5).all (okPc 94) = true := by decide +kernel
theorem oc_94 : ∀ pc, okPc 94 pc = true := by
  intro pc
  rcases (show (0 ≤ pc ∧ pc < 48) ∨ (48 ≤ pc ∧ pc < 53) ∨ 53 ≤ pc by omega) with h | h | h
  · exact List.all_eq_true.mp oc_94_0 pc (List.mem_range'_1.mpr (by omega))
  · exact List.all_eq_true.mp oc_94_1 pc (List.mem_range'_1.mpr (by omega))
  · exact okPc_big (Nat.le_trans (Nat.le_of_ble_eq_true (by decide +kernel)) h)
theorem oc_95_0 : (List.range' 0 40).all (okPc 95) = true := by decide +kernel
theorem oc_95 : ∀ pc, okPc 95 pc = true := by
  intro pc
  rcases (show (0 ≤ pc ∧ pc < 40) ∨ 40 ≤ pc by omega) with h | h
  · exact List.all_eq_true.mp oc_95_0 pc (List.mem_range'_1.mpr (by omega))
  · exact okPc_big (Nat.le_trans (Nat.le_of_ble_eq_true (by decide +kernel)) h)
theorem oc_96_0 : (List.range' 0 48).all (okPc 96) = true := by decide +kernel
theorem oc_96_1 : (List.range' 48 48).all (okPc 96) = true := by decide +kernel
theorem oc_96_2 : (List.range' 96 9).all (okPc 96) = true := by decide +kernel
theorem oc_96 : ∀ pc, okPc 96 pc = true := by
  intro pc
  rcases (show (0 ≤ pc ∧ pc < 48) ∨ (48 ≤ pc ∧ pc < 96) ∨ (96 ≤ pc ∧ pc < 105) ∨ 105 ≤ pc by omega) with h | h | h | h
  · exact List.all_eq_true.mp oc_96_0 pc (List.mem_range'_1.mpr (by omega))
  · exact List.all_eq_true.mp oc_96_1 pc (List.mem_range'_1.mpr (by omega))
  · exact List.all_eq_true.mp oc_96_2 pc (List.mem_range'_1.mpr (by omega))
  · exact okPc_big (Nat.le_trans (Nat.le_of_ble_eq_true (by decide +kernel)) h)
theorem oc_97_0 : (List.range' 0 30).all (okPc 97) = true := by decide +kernel
theorem oc_97 : ∀ pc, okPc 97 pc = true := by
  intro pc
  rcases (show (0 ≤ pc ∧ pc < 30) ∨ 30 ≤ pc by omega) with h | h
  · exact List.all_eq_true.mp oc_97_0 pc (List.mem_range'_1.mpr (by omega))
  · exact okPc_big (Nat.le_trans (Nat.le_of_ble_eq_true (by decide +kernel)) h)
theorem oc_98_0 : (List.range' 0 48).all (okPc 98) = true := by decide +kernel
theorem oc_98_1 : (List.range' 48 14).all (okPc 98) = true := by decide +kernel
theorem oc_98 : ∀ pc, okPc 98 pc = true := by
  intro pc
  rcases (show (0 ≤ pc ∧ pc < 48) ∨ (48 ≤ pc ∧ pc < 62) ∨ 62 ≤ pc by omega) with h | h | h
  · exact List.all_eq_true.mp oc_98_0 pc (List.mem_range'_1.mpr (by omega))
  · exact List.all_eq_true.mp oc_98_1 pc (List.mem_range'_1.mpr (by omega))
  · exact okPc_big (Nat.le_trans (Nat.le_of_ble_eq_true (by decide +kernel)) h)
theorem oc_99_0 : (List.range' 0 48).all (okPc 99) = true := by decide +kernel
theorem oc_99_1 : (List.range' 48 46).all (okPc 99) = true := by decide +kernel
theorem oc_99 : ∀ pc, okPc 99 pc = true := by
  intro pc
  rcases (show (0 ≤ pc ∧ pc < 48) ∨ (48 ≤ pc ∧ pc < 94) ∨ 94 ≤ pc by omega) with h | h | h
  · exact List.all_eq_true.mp oc_99_0 pc (List.mem_range'_1.mpr (by omega))
  · exact List.all_eq_true.mp oc_99_1 pc (List.mem_range'_1.mpr (by omega))
  · exact okPc_big (Nat.le_trans (Nat.le_of_ble_eq_true (by decide +kernel)) h)
theorem oc_100_0 : (List.range' 0 48).all (okPc 100) = true := by decide +kernel
theorem oc_100_1 : (List.range' 48 48).all (okPc 100) = true := by decide +kernel
theorem oc_100_2 : (List.range' 96 48).all (okPc 100) = true := by decide +kernel
theorem oc_100_3 : (List.range' 144 48).all (okPc 100) = true := by decide +kernel
theorem oc_100_4 : (List.range' 192 23).all (okPc 100) = true := by decide +kernel
theorem oc_100 : ∀ pc, okPc 100 pc = true := by
  intro pc
  rcases (show (0 ≤ pc ∧ pc < 48) ∨ (48 ≤ pc ∧ pc < 96) ∨ (96 ≤ pc ∧ pc < 144) ∨ (144 ≤ pc ∧ pc < 192) ∨ (192 ≤ pc ∧ pc < 215) ∨ 215 ≤ pc by omega) with h | h | h | h | h | h
  · exact List.all_eq_true.mp oc_100_0 pc (List.mem_range'_1.mpr (by omega))
  · exact List.all_eq_true.mp oc_100_1 pc (List.mem_range'_1.mpr (by omega))
  · exact List.all_eq_true.mp oc_100_2 pc (List.mem_range'_1.mpr (by omega))
  · exact List.all_eq_true.mp oc_100_3 pc (List.mem_range'_1.mpr (by omega))
  · exact List.all_eq_true.mp oc_100_4 pc (List.mem_range'_1.mpr (by omega))
  · exact okPc_big (Nat.le_trans (Nat.le_of_ble_eq_true (by decide +kernel)) h)
theorem oc_101_0 : (List.range' 0 48).all (okPc 101) = true := by decide +kernel
theorem oc_101_1 : (List.range' 48 48).all (okPc 101) = true := by decide +kernel
theorem oc_101_2 : (List.range' 96 48).all (okPc 101) = true := by decide +kernel
theorem oc_101_3 : (List.range' 144 17).all (okPc 101) = true := by decide +kernel
theorem oc_101 : ∀ pc, okPc 101 pc = true := by
  intro pc
  rcases (show (0 ≤ pc ∧ pc < 48) ∨ (48 ≤ pc ∧ pc < 96) ∨ (96 ≤ pc ∧ pc < 144) ∨ (144 ≤ pc ∧ pc < 161) ∨ 161 ≤ pc by omega) with h | h | h | h | h
  · exact List.all_eq_true.mp oc_101_0 pc (List.mem_range'_1.mpr (by omega))
  · exact List.all_eq_true.mp oc_101_1 pc (List.mem_range'_1.mpr (by omega))
  · exact List.all_eq_true.mp oc_101_2 pc (List.mem_range'_1.mpr (by omega))
  · exact List.all_eq_true.mp oc_101_3 pc (List.mem_range'_1.mpr (by omega))
  · exact okPc_big (Nat.le_trans (Nat.le_of_ble_eq_true (by decide +kernel)) h)
theorem oc_102_0 : (List.range' 0 48).all (okPc 102) = true := by decide +kernel
theorem oc_102_1 : (List.range' 48 26).all (okPc 102) = true := by decide +kernel
theorem oc_102 : ∀ pc, okPc 102 pc = true := by
  intro pc
  rcases (show (0 ≤ pc ∧ pc < 48) ∨ (48 ≤ pc ∧ pc < 74) ∨ 74 ≤ pc by omega) with h | h | h
  · exact List.all_eq_true.mp oc_102_0 pc (List.mem_range'_1.mpr (by omega))
  · exact List.all_eq_true.mp oc_102_1 pc (List.mem_range'_1.mpr (by omega))
  · exact okPc_big (Nat.le_trans (Nat.le_of_ble_eq_true (by decide +kernel)) h)
theorem oc_103_0 : (List.range' 0 21).all (okPc 103) = true := by decide +kernel
theorem oc_103 : ∀ pc, okPc 103 pc = true := by
  intro pc
  rcases (show (0 ≤ pc ∧ pc < 21) ∨ 21 ≤ pc by omega) with h | h
  · exact List.all_eq_true.mp oc_103_0 pc (List.mem_range'_1.mpr (by omega))
  · exact okPc_big (Nat.le_trans (Nat.le_of_ble_eq_true (by decide +kernel)) h)
theorem oc_104_0 : (List.range' 0 48).all (okPc 104) = true := by decide +kernel
theorem oc_104_1 : (List.range' 48 48).all (okPc 104) = true := by decide +kernel
theorem oc_104_2 : (List.range' 96 48).all (okPc 104) = true := by decide +kernel
theorem oc_104_3 : (List.range' 144 42).all (okPc 104) = true := by decide +kernel
theorem oc_104 : ∀ pc, okPc 104 pc = true := by
  intro pc
  rcases (show (0 ≤ pc ∧ pc < 48) ∨ (48 ≤ pc ∧ pc < 96) ∨ (96 ≤ pc ∧ pc < 144) ∨ (144 ≤ pc ∧ pc < 186) ∨ 186 ≤ pc by omega) with h | h | h | h | h
  · exact List.all_eq_true.mp oc_104_0 pc (List.mem_range'_1.mpr (by omega))
  · exact List.all_eq_true.mp oc_104_1 pc (List.mem_range'_1.mpr (by omega))
  · exact List.all_eq_true.mp oc_104_2 pc (List.mem_range'_1.mpr (by omega))
  · exact List.all_eq_true.mp oc_104_3 pc (List.mem_range'_1.mpr (by omega))
  · exact okPc_big (Nat.le_trans (Nat.le_of_ble_eq_true (by decide +kernel)) h)
theorem oc_105_0 : (List.range' 0 48).all (okPc 105) = true := by decide +kernel
theorem oc_105_1 : (List.range' 48 37).all (okPc 105) = true := by decide +kernel
theorem oc_105 : ∀ pc, okPc 105 pc = true := by
  intro pc
  rcases (show (0 ≤ pc ∧ pc < 48) ∨ (48 ≤ pc ∧ pc < 85) ∨ 85 ≤ pc by omega) with h | h | h
  · exact List.all_eq_true.mp oc_105_0 pc (List.mem_range'_1.mpr (by omega))
  · exact List.all_eq_true.mp oc_105_1 pc (List.mem_range'_1.mpr (by omega))
  · exact okPc_big (Nat.le_trans (Nat.le_of_ble_eq_true (by decide +kernel)) h)
theorem oc_106_0 : (List.range' 0 48).all (okPc 106) = true := by decide +kernel
theorem oc_106_1 : (List.range' 48 23).all (okPc 106) = true := by decide +kernel
theorem oc_106 : ∀ pc, okPc 106 pc = true := by
  intro pc
  rcases (show (0 ≤ pc ∧ pc < 48) ∨ (48 ≤ pc ∧ pc < 71) ∨ 71 ≤ pc by omega) with h | h | h
  · exact List.all_eq_true.mp oc_106_0 pc (List.mem_range'_1.mpr (by omega))
  · exact List.all_eq_true.mp oc_106_1 pc (List.mem_range'_1.mpr (by omega))
  · exact okPc_big (Nat.le_trans (Nat.le_of_ble_eq_true (by decide +kernel)) h)
theorem oc_107_0 : (List.range' 0 21).all (okPc 107) = true := by decide +kernel
theorem oc_107 : ∀ pc, okPc 107 pc = true := by
  intro pc
  rcases (show (0 ≤ pc ∧ pc < 21) ∨ 21 ≤ pc by omega) with h | h
  · exact List.all_eq_true.mp oc_107_0 pc (List.mem_range'_1.mpr (by omega))
  · exact okPc_big (Nat.le_trans (Nat.le_of_ble_eq_true (by decide +kernel)) h)
theorem oc_108_0 : (List.range' 0 48).all (okPc 108) = true := by decide +kernel
theorem oc_108_1 : (List.range' 48 48).all (okPc 108) = true := by decide +kernel
theorem oc_108_2 : (List.range' 96 4).all (okPc 108) = true := by decide +kernel
theorem oc_108 : ∀ pc, okPc 108 pc = true := by
  intro pc
  rcases (show (0 ≤ pc ∧ pc < 48) ∨ (48 ≤ pc ∧ pc < 96) ∨ (96 ≤ pc ∧ pc < 100) ∨ 100 ≤ pc by omega) with h | h | h | h
  · exact List.all_eq_true.mp oc_108_0 pc (List.mem_range'_1.mpr (by omega))
  · exact List.all_eq_true.mp oc_108_1 pc (List.mem_range'_1.mpr (by omega))
  · exact List.all_eq_true.mp oc_108_2 pc (List.mem_range'_1.mpr (by omega))
  · exact okPc_big (Nat.le_trans (Nat.le_of_ble_eq_true (by decide +kernel)) h)
theorem oc_109_0 : (List.range' 0 29).all (okPc 109) = true := by decide +kernel
theorem oc_109 : ∀ pc, okPc 109 pc = true := by
  intro pc
  rcases (show (0 ≤ pc ∧ pc < 29) ∨ 29 ≤ pc by omega) with h | h
  · exact List.all_eq_true.mp oc_109_0 pc (List.mem_range'_1.mpr (by omega))
  · exact okPc_big (Nat.le_trans (Nat.le_of_ble_eq_true (by decide +kernel)) h)
theorem oc_110_0 : (List.range' 0 26).all (okPc 110) = true := by decide +kernel
theorem oc_110 : ∀ pc, okPc 110 pc = true := by
  intro pc
  rcases (show (0 ≤ pc ∧ pc < 26) ∨ 26 ≤ pc by omega) with h | h
  · exact List.all_eq_true.mp oc_110_0 pc (List.mem_range'_1.mpr (by omega))
  · exact okPc_big (Nat.le_trans (Nat.le_of_ble_eq_true (by decide +kernel)) h)
theorem oc_111_0 : (List.range' 0 11).all (okPc 111) = true := by decide +kernel
theorem oc_111 : ∀ pc, okPc 111 pc = true := by
  intro pc
  rcases (show (0 ≤ pc ∧ pc < 11) ∨ 11 ≤ pc by omega) with h | h
  · exact List.all_eq_true.mp oc_111_0 pc (List.mem_range'_1.mpr (by omega))
  · exact okPc_big (Nat.le_trans (Nat.le_of_ble_eq_true (by decide +kernel)) h)
theorem oc_112_0 : (List.range' 0 26).all (okPc 112) = true := by decide +kernel
theorem oc_112 : ∀ pc, okPc 112 pc = true := by
  intro pc
  rcases (show (0 ≤ pc ∧ pc < 26) ∨ 26 ≤ pc by omega) with h | h
  · exact List.all_eq_true.mp oc_112_0 pc (List.mem_range'_1.mpr (by omega))
  · exact okPc_big (Nat.le_trans (Nat.le_of_ble_eq_true (by decide +kernel)) h)
theorem oc_113_0 : (List.range' 0 48).all (okPc 113) = true := by decide +kernel
theorem oc_113_1 : (List.range' 48 48).all (okPc 113) = true := by decide +kernel
theorem oc_113_2 : (List.range' 96 48).all (okPc 113) = true := by decide +kernel
theorem oc_113_3 : (List.range' 144 46).all (okPc 113) = true := by decide +kernel
theorem oc_113 : ∀ pc, okPc 113 pc = true := by
  intro pc
  rcases (show (0 ≤ pc ∧ pc < 48) ∨ (48 ≤ pc ∧ pc < 96) ∨ (96 ≤ pc ∧ pc < 144) ∨ (144 ≤ pc ∧ pc < 190) ∨ 190 ≤ pc by omega) with h | h | h | h | h
  · exact List.all_eq_true.mp oc_113_0 pc (List.mem_range'_1.mpr (by omega))
  · exact List.all_eq_true.mp oc_113_1 pc (List.mem_range'_1.mpr (by omega))
  · exact List.all_eq_true.mp oc_113_2 pc (List.mem_range'_1.mpr (by omega))
  · exact List.all_eq_true.mp oc_113_3 pc (List.mem_range'_1.mpr (by omega))
  · exact okPc_big (Nat.le_trans (Nat.le_of_ble_eq_true (by decide +kernel)) h)
theorem oc_114_0 : (List.range' 0 17).all (okPc 114) = true := by decide +kernel
theorem oc_114 : ∀ pc, okPc 114 pc = true := by
  intro pc
  rcases (show (0 ≤ pc ∧ pc < 17) ∨ 17 ≤ pc by omega) with h | h
  · exact List.all_eq_true.mp oc_114_0 pc (List.mem_range'_1.mpr (by omega))
  · exact okPc_big (Nat.le_trans (Nat.le_of_ble_eq_true (by decide +kernel)) h)
theorem oc_115_0 : (List.range' 0 48).all (okPc 115) = true := by decide +kernel
theorem oc_115_1 : (List.range' 48 48).all (okPc 115) = true := by decide +kernel
theorem oc_115_2 : (List.range' 96 48).all (okPc 115) = true := by decide +kernel
theorem oc_115_3 : (List.range' 144 5).all (okPc 115) = true := by decide +kernel
theorem oc_115 : ∀ pc, okPc 115 pc = true := by
  intro pc
  rcases (show (0 ≤ pc ∧ pc < 48) ∨ (48 ≤ pc ∧ pc < 96) ∨ (96 ≤ pc ∧ pc < 144) ∨ (144 ≤ pc ∧ pc < 149) ∨ 149 ≤ pc by omega) with h | h | h | h | h
  · exact List.all_eq_true.mp oc_115_0 pc (List.mem_range'_1.mpr (by omega))
  · exact List.all_eq_true.mp oc_115_1 pc (List.mem_range'_1.mpr (by omega))
  · exact List.all_eq_true.mp oc_115_2 pc (List.mem_range'_1.mpr (by omega))
  · exact List.all_eq_true.mp oc_115_3 pc (List.mem_range'_1.mpr (by omega))
  · exact okPc_big (Nat.le_trans (Nat.le_of_ble_eq_true (by decide +kernel)) h)
theorem oc_116_0 : (List.range' 0 48).all (okPc 116) = true := by decide +kernel
theorem oc_116_1 : (List.range' 48 48).all (okPc 116) = true := by decide +kernel
theorem oc_116_2 : (List.range' 96 48).all (okPc 116) = true := by decide +kernel
theorem oc_116_3 : (List.range' 144 7).all (okPc 116) = true := by decide +kernel
theorem oc_116 : ∀ pc, okPc 116 pc = true := by
  intro pc
  rcases (show (0 ≤ pc ∧ pc < 48) ∨ (48 ≤ pc ∧ pc < 96) ∨ (96 ≤ pc ∧ pc < 144) ∨ (144 ≤ pc ∧ pc < 151) ∨ 151 ≤ pc by omega) with h | h | h | h | h
  · exact List.all_eq_true.mp oc_116_0 pc (List.mem_range'_1.mpr (by omega))
  · exact List.all_eq_true.mp oc_116_1 pc (List.mem_range'_1.mpr (by omega))
  · exact List.all_eq_true.mp oc_116_2 pc (List.mem_range'_1.mpr (by omega))
  · exact List.all_eq_true.mp oc_116_3 pc (List.mem_range'_1.mpr (by omega))
  · exact okPc_big (Nat.le_trans (Nat.le_of_ble_eq_true (by decide +kernel)) h)
theorem oc_117_0 : (List.range' 0 48).all (okPc 117) = true := by decide +kernel
theorem oc_117_1 : (List.range' 48 48).all (okPc 117) = true := by decide +kernel
theorem oc_117_2 : (List.range' 96 5).all (okPc 117) = true := by decide +kernel
theorem oc_117 : ∀ pc, okPc 117 pc = true := by
  intro pc
  rcases (show (0 ≤ pc ∧ pc < 48) ∨ (48 ≤ pc ∧ pc < 96) ∨ (96 ≤ pc ∧ pc < 101) ∨ 101 ≤ pc by omega) with h | h | h | h
  · exact List.all_eq_true.mp oc_117_0 pc (List.mem_range'_1.mpr (by omega))
  · exact List.all_eq_true.mp oc_117_1 pc (List.mem_range'_1.mpr (by omega))
  · exact List.all_eq_true.mp oc_117_2 pc (List.mem_range'_1.mpr (by omega))
  · exact okPc_big (Nat.le_trans (Nat.le_of_ble_eq_true (by decide +kernel)) h)
theorem oc_118_0 : (List.range' 0 48).all (okPc 118) = true := by decide +kernel
theorem oc_118_1 : (List.range' 48 5).all (okPc 118) = true := by decide +kernel
theorem oc_118 : ∀ pc, okPc 118 pc = true := by
  intro pc
  rcases (show (0 ≤ pc ∧ pc < 48) ∨ (48 ≤ pc ∧ pc < 53) ∨ 53 ≤ pc by omega) with h | h | h
  · exact List.all_eq_true.mp oc_118_0 pc (List.mem_range'_1.mpr (by omega))
  · exact List.all_eq_true.mp oc_118_1 pc (List.mem_range'_1.mpr (by omega))
  · exact okPc_big (Nat.le_trans (Nat.le_of_ble_eq_true (by decide +kernel)) h)
theorem oc_119_0 : (List.range' 0 48).all (okPc 119) = true := by decide +kernel
theorem oc_119_1 : (List.range' 48 48).all (okPc 119) = true := by decide +kernel
theorem oc_119_2 : (List.range' 96 48).all (okPc 119) = true := by decide +kernel
theorem oc_119_3 : (List.range' 144 48).all (okPc 119) = true := by decide +kernel
theorem oc_119_4 : (List.range' 192 48).all (okPc 119) = true := by decide +kernel
theorem oc_119_5 : (List.range' 240 48).all (okPc 119) = true := by decide +kernel
theorem oc_119_6 : (List.range' 288 23).all (okPc 119) = true := by decide +kernel
theorem oc_119 : ∀ pc, okPc 119 pc = true := by
  intro pc
  rcases (show (0 ≤ pc ∧ pc < 48) ∨ (48 ≤ pc ∧ pc < 96) ∨ (96 ≤ pc ∧ pc < 144) ∨ (144 ≤ pc ∧ pc < 192) ∨ (192 ≤ pc ∧ pc < 240) ∨ (240 ≤ pc ∧ pc < 288) ∨ (288 ≤ pc ∧ pc < 311) ∨ 311 ≤ pc by omega) with h | h | h | h | h | h | h | h
  · exact List.all_eq_true.mp oc_119_0 pc (List.mem_range'_1.mpr (by omega))
  · exact List.all_eq_true.mp oc_119_1 pc (List.mem_range'_1.mpr (by omega))
  · exact List.all_eq_true.mp oc_119_2 pc (List.mem_range'_1.mpr (by omega))
  · exact List.all_eq_true.mp oc_119_3 pc (List.mem_range'_1.mpr (by omega))
  · exact List.all_eq_true.mp oc_119_4 pc (List.mem_range'_1.mpr (by omega))
  · exact List.all_eq_true.mp oc_119_5 pc (List.mem_range'_1.mpr (by omega))
  · exact List.all_eq_true.mp oc_119_6 pc (List.mem_range'_1.mpr (by omega))
  · exact okPc_big (Nat.le_trans (Nat.le_of_ble_eq_true (by decide +kernel)) h)
theorem oc_120_0 : (List.range' 0 36).all (okPc 120) = true := by decide +kernel
theorem oc_120 : ∀ pc, okPc 120 pc = true := by
  intro pc
  rcases (show (0 ≤ pc ∧ pc < 36) ∨ 36 ≤ pc by omega) with h | h
  · exact List.all_eq_true.mp oc_120_0 pc (List.mem_range'_1.mpr (by omega))
  · exact okPc_big (Nat.le_trans (Nat.le_of_ble_eq_true (by decide +kernel)) h)
theorem oc_121_0 : (List.range' 0 48).all (okPc 121) = true := by decide +kernel
theorem oc_121_1 : (List.range' 48 3).all (okPc 121) = true := by decide +kernel
theorem oc_121 : ∀ pc, okPc 121 pc = true := by
  intro pc
  rcases (show (0 ≤ pc ∧ pc < 48) ∨ (48 ≤ pc ∧ pc < 51) ∨ 51 ≤ pc by omega) with h | h | h
  · exact List.all_eq_true.mp oc_121_0 pc (List.mem_range'_1.mpr (by omega))
  · exact List.all_eq_true.mp oc_121_1 pc (List.mem_range'_1.mpr (by omega))
  · exact okPc_big (Nat.le_trans (Nat.le_of_ble_eq_true (by decide +kernel)) h)
theorem oc_122_0 : (List.range' 0 45).all (okPc 122) = true := by decide +kernel
theorem oc_122 : ∀ pc, okPc 122 pc = true := by
  intro pc
  rcases (show (0 ≤ pc ∧ pc < 45) ∨ 45 ≤ pc by omega) with h | h
  · exact List.all_eq_true.mp oc_122_0 pc (List.mem_range'_1.mpr (by omega))
  · exact okPc_big (Nat.le_trans (Nat.le_of_ble_eq_true (by decide +kernel)) h)
theorem oc_123_0 : (List.range' 0 44).all (okPc 123) = true := by decide +kernel
theorem oc_123 : ∀ pc, okPc 123 pc = true := by
  intro pc
  rcases (show (0 ≤ pc ∧ pc < 44) ∨ 44 ≤ pc by omega) with h | h
  · exact List.all_eq_true.mp oc_123_0 pc (List.mem_range'_1.mpr (by omega))
  · exact okPc_big (Nat.le_trans (Nat.le_of_ble_eq_true (by decide +kernel)) h)
theorem oc_124_0 : (List.range' 0 47).all (okPc 124) = true := by decide +kernel
theorem oc_124 : ∀ pc, okPc 124 pc = true := by
  intro pc
  rcases (show (0 ≤ pc ∧ pc < 47) ∨ 47 ≤ pc by omega) with h | h
  · exact List.all_eq_true.mp oc_124_0 pc (List.mem_range'_1.mpr (by omega))
  · exact okPc_big (Nat.le_trans (Nat.le_of_ble_eq_true (by decide +kernel)) h)
theorem oc_125_0 : (List.range' 0 44).all (okPc 125) = true := by decide +kernel
theorem oc_125 : ∀ pc, okPc 125 pc = true := by
  intro pc
  rcases (show (0 ≤ pc ∧ pc < 44) ∨ 44 ≤ pc by omega) with h | h
  · exact List.all_eq_true.mp oc_125_0 pc (List.mem_range'_1.mpr (by omega))
  · exact okPc_big (Nat.le_trans (Nat.le_of_ble_eq_true (by decide +kernel)) h)
theorem oc_126_0 : (List.range' 0 46).all (okPc 126) = true := by decide +kernel
theorem oc_126 : ∀ pc, okPc 126 pc = true := by
  intro pc
  rcases (show (0 ≤ pc ∧ pc < 46) ∨ 46 ≤ pc by omega) with h | h
  · exact List.all_eq_true.mp oc_126_0 pc (List.mem_range'_1.mpr (by omega))
  · exact okPc_big (Nat.le_trans (Nat.le_of_ble_eq_true (by decide +kernel)) h)
theorem oc_127_0 : (List.range' 0 36).all (okPc 127) = true := by decide +kernel
theorem oc_127 : ∀ pc, okPc 127 pc = true := by
  intro pc
  rcases (show (0 ≤ pc ∧ pc < 36) ∨ 36 ≤ pc by omega) with h | h
  · exact List.all_eq_true.mp oc_127_0 pc (List.mem_range'_1.mpr (by omega))
  · exact okPc_big (Nat.le_trans (Nat.le_of_ble_eq_true (by decide +kernel)) h)
theorem oc_128_0 : (List.range' 0 21).all (okPc 128) = true := by decide +kernel
theorem oc_128 : ∀ pc, okPc 128 pc = true := by
  intro pc
  rcases (show (0 ≤ pc ∧ pc < 21) ∨ 21 ≤ pc by omega) with h | h
  · exact List.all_eq_true.mp oc_128_0 pc (List.mem_range'_1.mpr (by omega))
  · exact okPc_big (Nat.le_trans (Nat.le_of_ble_eq_true (by decide +kernel)) h)
theorem oc_129_0 : (List.range' 0 5).all (okPc 129) = true := by decide +kernel
theorem oc_129 : ∀ pc, okPc 129 pc = true := by
  intro pc
  rcases (show (0 ≤ pc ∧ pc < 5) ∨ 5 ≤ pc by omega) with h | h
  · exact List.all_eq_true.mp oc_129_0 pc (List.mem_range'_1.mpr (by omega))
  · exact okPc_big (Nat.le_trans (Nat.le_of_ble_eq_true (by decide +kernel)) h)
theorem oc_130_0 : (List.range' 0 48).all (okPc 130) = true := by decide +kernel
theorem oc_130_1 : (List.range' 48 48).all (okPc 130) = true := by decide +kernel
theorem oc_130_2 : (List.range' 96 48).all (okPc 130) = true := by decide +kernel
theorem oc_130_3 : (List.range' 144 48).all (okPc 130) = true := by decide +kernel
theorem oc_130_4 : (List.range' 192 48).all (okPc 130) = true := by decide +kernel
theorem oc_130_5 : (List.range' 240 48).all (okPc 130) = true := by decide +kernel
theorem oc_130_6 : (List.range' 288 48).all (okPc 130) = true := by decide +kernel
theorem oc_130_7 : (List.range' 336 48).all (okPc 130) = true := by decide +kernel
theorem oc_130_8 : (List.range' 384 48).all (okPc 130) = true := by decide +kernel
theorem oc_130_9 : (List.range' 432 48).all (okPc 130) = true := by decide +kernel
theorem oc_130_10 : (List.range' 480 48).all (okPc 130) = true := by decide +kernel
theorem oc_130_11 : (List.range' 528 48).all (okPc 130) = true := by decide +kernel
theorem oc_130_12 : (List.range' 576 48).all (okPc 130) = true := by decide +kernel
theorem oc_130_13 : (List.range' 624 25).all (okPc 130) = true := by decide +kernel
theorem oc_130 : ∀ pc, okPc 130 pc = true := by
  intro pc
  rcases (show (0 ≤ pc ∧ pc < 48) ∨ (48 ≤ pc ∧ pc < 96) ∨ (96 ≤ pc ∧ pc < 144) ∨ (144 ≤ pc ∧ pc < 192) ∨ (192 ≤ pc ∧ pc < 240) ∨ (240 ≤ pc ∧ pc < 288) ∨ (288 ≤ pc ∧ pc < 336) ∨ (336 ≤ pc ∧ pc < 384) ∨ (384 ≤ pc ∧ pc < 432) ∨ (432 ≤ pc ∧ pc < 480) ∨ (480 ≤ pc ∧ pc < 528) ∨ (528 ≤ pc ∧ pc < 576) ∨ (576 ≤ pc ∧ pc < 624) ∨ (624 ≤ pc ∧ pc < 649) ∨ 649 ≤ pc by omega) with h | h | h | h | h | h | h | h | h | h | h | h | h | h | h
  · exact List.all_eq_true.mp oc_130_0 pc (List.mem_range'_1.mpr (by omega))
  · exact List.all_eq_true.mp oc_130_1 pc (List.mem_range'_1.mpr (by omega))
  · exact List.all_eq_true.mp oc_130_2 pc (List.mem_range'_1.mpr (by omega))
  · exact List.all_eq_true.mp oc_130_3 pc (List.mem_range'_1.mpr (by omega))
  · exact List.all_eq_true.mp oc_130_4 pc (List.mem_range'_1.mpr (by omega))
  · exact List.all_eq_true.mp oc_130_5 pc (List.mem_range'_1.mpr (by omega))
  · exact List.all_eq_true.mp oc_130_6 pc (List.mem_range'_1.mpr (by omega))
  · exact List.all_eq_true.mp oc_130_7 pc (List.mem_range'_1.mpr (by omega))
  · exact List.all_eq_true.mp oc_130_8 pc (List.mem_range'_1.mpr (by omega))
  · exact List.all_eq_true.mp oc_130_9 pc (List.mem_range'_1.mpr (by omega))
  · exact List.all_eq_true.mp oc_130_10 pc (List.mem_range'_1.mpr (by omega))
  · exact List.all_eq_true.mp oc_130_11 pc (List.mem_range'_1.mpr (by omega))
  · exact List.all_eq_true.mp oc_130_12 pc (List.mem_range'_1.mpr (by omega))
  · exact List.all_eq_true.mp oc_130_13 pc (List.mem_range'_1.mpr (by omega))
  · exact okPc_big (Nat.le_trans (Nat.le_of_ble_eq_true (by decide +kernel)) h)
theorem oc_all : ∀ m, m < 131 → ∀ pc, okPc m pc = true
  | 0, _ => oc_0
  | 1, _ => oc_1
  | 2, _ => oc_2
  | 3, _ => oc_3
  | 4, _ => oc_4
  | 5, _ => oc_5
  | 6, _ => oc_6
  | 7, _ => oc_7
  | 8, _ => oc_8
  | 9, _ => oc_9
  | 10, _ => oc_10
  | 11, _ => oc_11
  | 12, _ => oc_12
  | 13, _ => oc_13
  | 14, _ => oc_14
  | 15, _ => oc_15
  | 16, _ => oc_16
  | 17, _ => oc_17
  | 18, _ => oc_18
  | 19, _ => oc_19
  | 20, _ => oc_20
  | 21, _ => oc_21
  | 22, _ => oc_22
  | 23, _ => oc_23
  | 24, _ => oc_24
  | 25, _ => oc_25
  | 26, _ => oc_26
  | 27, _ => oc_27
  | 28, _ => oc_28
  | 29, _ => oc_29
  | 30, _ => oc_30
  | 31, _ => oc_31
  | 32, _ => oc_32
  | 33, _ => oc_33
  | 34, _ => oc_34
  | 35, _ => oc_35
  | 36, _ => oc_36
  | 37, _ => oc_37
  | 38, _ => oc_38
  | 39, _ => oc_39
  | 40, _ => oc_40
  | 41, _ => oc_41
  | 42, _ => oc_42
  | 43, _ => oc_43
  | 44, _ => oc_44
  | 45, _ => oc_45
  | 46, _ => oc_46
  | 47, _ => oc_47
  | 48, _ => oc_48
  | 49, _ => oc_49
  | 50, _ => oc_50
  | 51, _ => oc_51
  | 52, _ => oc_52
  | 53, _ => oc_53
  | 54, _ => oc_54
  | 55, _ => oc_55
  | 56, _ => oc_56
  | 57, _ => oc_57
  | 58, _ => oc_58
  | 59, _ => oc_59
  | 60, _ => oc_60
  | 61, _ => oc_61
  | 62, _ => oc_62
  | 63, _ => oc_63
  | 64, _ => oc_64
  | 65, _ => oc_65
  | 66, _ => oc_66
  | 67, _ => oc_67
  | 68, _ => oc_68
  | 69, _ => oc_69
  | 70, _ => oc_70
  | 71, _ => oc_71
  | 72, _ => oc_72
  | 73, _ => oc_73
  | 74, _ => oc_74
  | 75, _ => oc_75
  | 76, _ => oc_76
  | 77, _ => oc_77
  | 78, _ => oc_78
  | 79, _ => oc_79
  | 80, _ => oc_80
  | 81, _ => oc_81
  | 82, _ => oc_82
  | 83, _ => oc_83
  | 84, _ => oc_84
  | 85, _ => oc_85
  | 86, _ => oc_86
  | 87, _ => oc_87
  | 88, _ => oc_88
  | 89, _ => oc_89
  | 90, _ => oc_90
  | 91, _ => oc_91
  | 92, _ => oc_92
  | 93, _ => oc_93
  | 94, _ => oc_94
  | 95, _ => oc_95
  | 96, _ => oc_96
  | 97, _ => oc_97
  | 98, _ => oc_98
  | 99, _ => oc_99
  | 100, _ => oc_100
  | 101, _ => oc_101
  | 102, _ => oc_102
  | 103, _ => oc_103
  | 104, _ => oc_104
  | 105, _ => oc_105
  | 106, _ => oc_106
  | 107, _ => oc_107
  | 108, _ => oc_108
  | 109, _ => oc_109
  | 110, _ => oc_110
  | 111, _ => oc_111
  | 112, _ => oc_112
  | 113, _ => oc_113
  | 114, _ => oc_114
  | 115, _ => oc_115
  | 116, _ => oc_116
  | 117, _ => oc_117
  | 118, _ => oc_118
  | 119, _ => oc_119
  | 120, _ => oc_120
  | 121, _ => oc_121
  | 122, _ => oc_122
  | 123, _ => oc_123
  | 124, _ => oc_124
  | 125, _ => oc_125
  | 126, _ => oc_126
  | 127, _ => oc_127
  | 128, _ => oc_128
  | 129, _ => oc_129
  | 130, _ => oc_130
  | k + 131, h => absurd h (by omega)
end
section
/-! ===== A small machine over numbers: locals and stack as lists, the heap as the list of the cells that the law makes (cell 0 stands for the script). 'exec' runs a method's code list; part 06 shows that the JVM does the same. ===== -/
/-- a cell: an array (type of its elements, length, contents) or an object (class number, fields) -/
abbrev AC : Type := (FieldType × Nat × (Nat → Value)) ⊕ (Nat × List Value)
abbrev AH : Type := List AC
abbrev AL : Type := List (Option Value)
abbrev ARes : Type := Option Value × AH
def inB (i : Int32) (n : Nat) : Bool := decide (0 ≤ i.toInt) && decide (i.toInt < n)
/-- a long before the stored place is lost -/
def cl1 : Option Value → Option Value
  | some (.long _) => none
  | some (.double _) => none
  | o => o
def st1 : AL → Nat → Value → Option AL
  | [], _, _ => none
  | _ :: t, 0, v => some (some v :: t)
  | o :: t, 1, v => match t with
    | [] => none
    | _ :: t' => some (cl1 o :: some v :: t')
  | o :: t, i + 2, v => (st1 t (i + 1) v).map (o :: ·)
def st2 : AL → Nat → Value → Option AL
  | [], _, _ => none
  | _ :: t, 0, v => match t with
    | [] => none
    | _ :: t' => some (some v :: none :: t')
  | o :: t, 1, v => match t with
    | _ :: _ :: t' => some (cl1 o :: some v :: none :: t')
    | _ => none
  | o :: t, i + 2, v => (st2 t (i + 1) v).map (o :: ·)
/-- a method's first locals -/
def len0 : List Value → AL
  | [] => []
  | v :: vs => if v.category = 2 then some v :: none :: len0 vs else some v :: len0 vs
def ent (m : Nat) (as : List Value) : AL := len0 as ++ List.replicate (mMax m - (len0 as).length) none
def jmp (pc : Nat) (off : Int) : Option Nat := match (pc : Int) + off with
  | .ofNat n => some n
  | _ => none
def cI (cn : Jvm.ClassFile.Cond) (x y : Int32) : Bool := match cn with
  | .eq => decide (x = y)
  | .ne => !decide (x = y)
  | .lt => decide (x < y)
  | .ge => decide (y ≤ x)
  | .gt => decide (y < x)
  | .le => decide (x ≤ y)
/-- a cell may be written but for the script -/
def hset (h : AH) (a : Nat) (e : AC) : AH := h.set a e
def fld (h : AH) (a ci k : Nat) : Option Value := match h[a]? with
  | some (.inr (c, fs)) => if c = ci then fs[k]? else none
  | _ => none
def okF (ci k : Nat) (v : Value) : Bool := fits (fty ci k) v && decide (narrow (fty ci k) v = v)
def stf (h : AH) (a ci k : Nat) (v : Value) : Option AH := match h[a]? with
  | some (.inr (c, fs)) => if a ≠ 0 ∧ c = ci ∧ k < fs.length ∧ okF ci k v = true then some (h.set a (.inr (c, fs.set k v))) else none
  | _ => none
def ald (h : AH) (a : Nat) (ty : FieldType) (i : Int32) : Option Value := match h[a]? with
  | some (.inl (t, n, f)) => if t = ty ∧ inB i n = true then some (f i.toNatClampNeg) else none
  | _ => none
def ast (h : AH) (a : Nat) (ty : FieldType) (i : Int32) (v : Value) : Option AH := match h[a]? with
  | some (.inl (t, n, f)) => if a ≠ 0 ∧ t = ty ∧ inB i n = true ∧ narrow ty v = v then some (h.set a (.inl (t, n, updV f i.toNatClampNeg v))) else none
  | _ => none
def aln (h : AH) (a : Nat) : Option Int32 := match h[a]? with
  | some (.inl (_, n, _)) => some (Int32.ofNat n)
  | _ => none
def isO (h : AH) (a ci : Nat) : Bool := match h[a]? with
  | some (.inr (c, _)) => decide (c = ci)
  | _ => false
def newO (ci : Nat) : AC := .inr (ci, (List.range (nSl ci)).map fun k => defaultValue (fty ci k))
def newA (ty : FieldType) (n : Nat) : AC := .inl (ty, n, fun _ => defaultValue ty)
abbrev ASt : Type := Nat × AL × List Value × AH
def psh (pc : Nat) (L : AL) (S : List Value) (h : AH) (v : Value) : Option ASt := some (pc, L, v :: S, h)
def ld (L : AL) (k pc : Nat) (S : List Value) (h : AH) (ok : Value → Bool) : Option ASt := match L[k]? with
  | some (some v) => if ok v = true then some (pc, L, v :: S, h) else none
  | _ => none
def isI : Value → Bool
  | .int _ => true
  | _ => false
def isJ : Value → Bool
  | .long _ => true
  | _ => false
def isR : Value → Bool
  | .ref _ => true
  | .null => true
  | _ => false
def sto (L : AL) (k pc : Nat) (S : List Value) (h : AH) (ok : Value → Bool) : Option ASt := match S with
  | v :: S' => if ok v = true then (st1 L k v).map (fun L' => (pc, L', S', h)) else none
  | _ => none
def stoJ (L : AL) (k pc : Nat) (S : List Value) (h : AH) : Option ASt := match S with
  | .long x :: S' => (st2 L k (.long x)).map (fun L' => (pc, L', S', h))
  | _ => none
def bin (f : Int32 → Int32 → Int32) (pc : Nat) (L : AL) (S : List Value) (h : AH) : Option ASt := match S with
  | .int y :: .int x :: S' => some (pc, L, .int (f x y) :: S', h)
  | _ => none
def binJ (f : Int64 → Int64 → Int64) (pc : Nat) (L : AL) (S : List Value) (h : AH) : Option ASt := match S with
  | .long y :: .long x :: S' => some (pc, L, .long (f x y) :: S', h)
  | _ => none
def shJ (f : Int64 → Int32 → Int64) (pc : Nat) (L : AL) (S : List Value) (h : AH) : Option ASt := match S with
  | .int y :: .long x :: S' => some (pc, L, .long (f x y) :: S', h)
  | _ => none
def br1 (cn : Jvm.ClassFile.Cond) (off : Int) (pc : Nat) (L : AL) (S : List Value) (h : AH) : Option ASt := match S with
  | .int x :: S' => (jmp pc off).map fun t => (if cI cn x 0 = true then t else pc + 3, L, S', h)
  | _ => none
def br2 (cn : Jvm.ClassFile.Cond) (off : Int) (pc : Nat) (L : AL) (S : List Value) (h : AH) : Option ASt := match S with
  | .int y :: .int x :: S' => (jmp pc off).map fun t => (if cI cn x y = true then t else pc + 3, L, S', h)
  | _ => none
def stp (m : Nat) (i : Instr) (aux pc : Nat) (L : AL) (S : List Value) (h : AH) : Option ASt := match i with
  | .aconst_null => some (pc + 1, L, .null :: S, h)
  | .iconst n => some (pc + 1, L, .int (Int32.ofInt n) :: S, h)
  | .bipush n => some (pc + 2, L, .int (Int8.ofInt n).toInt32 :: S, h)
  | .sipush n => some (pc + 3, L, .int (Int16.ofInt n).toInt32 :: S, h)
  | .lconst n => some (pc + 1, L, .long (Int64.ofNat (n : Nat)) :: S, h)
  | .ldc2_w _ => (kcs[aux]?).map fun v => (pc + 3, L, .long v :: S, h)
  | .iload k => ld L k (pc + 2) S h isI
  | .iload_n k => ld L k (pc + 1) S h isI
  | .lload k => ld L k (pc + 2) S h isJ
  | .lload_n k => ld L k (pc + 1) S h isJ
  | .aload k => ld L k (pc + 2) S h isR
  | .aload_n k => ld L k (pc + 1) S h isR
  | .istore k => sto L k (pc + 2) S h isI
  | .istore_n k => sto L k (pc + 1) S h isI
  | .astore k => sto L k (pc + 2) S h isR
  | .astore_n k => sto L k (pc + 1) S h isR
  | .lstore k => stoJ L k (pc + 2) S h
  | .lstore_n k => stoJ L k (pc + 1) S h
  | .iinc k n => match L[k]? with
    | some (some (.int x)) => (st1 L k (.int (x + Int32.ofInt n))).map fun L' => (pc + 3, L', S, h)
    | _ => none
  | .iadd => bin (fun x y => x + y) (pc + 1) L S h
  | .isub => bin (fun x y => x - y) (pc + 1) L S h
  | .imul => bin (fun x y => x * y) (pc + 1) L S h
  | .iand => bin (fun x y => x &&& y) (pc + 1) L S h
  | .ior => bin (fun x y => x ||| y) (pc + 1) L S h
  | .ixor => bin (fun x y => x ^^^ y) (pc + 1) L S h
  | .ishl => bin (fun x y => x <<< (y &&& 31)) (pc + 1) L S h
  | .ishr => bin (fun x y => x >>> (y &&& 31)) (pc + 1) L S h
  | .land => binJ (fun x y => x &&& y) (pc + 1) L S h
  | .lor => binJ (fun x y => x ||| y) (pc + 1) L S h
  | .lshl => shJ (fun x y => x <<< (y.toInt64 &&& 63)) (pc + 1) L S h
  | .lshr => shJ (fun x y => x >>> (y.toInt64 &&& 63)) (pc + 1) L S h
  | .lushr => shJ (fun x y => (x.toUInt64 >>> (y.toInt64.toUInt64 &&& Int64.toUInt64 63)).toInt64) (pc + 1) L S h
  | .i2l => match S with
    | .int x :: S' => some (pc + 1, L, .long x.toInt64 :: S', h)
    | _ => none
  | .l2i => match S with
    | .long x :: S' => some (pc + 1, L, .int x.toInt32 :: S', h)
    | _ => none
  | .lcmp => match S with
    | .long y :: .long x :: S' => some (pc + 1, L, .int (lg_cmp x y) :: S', h)
    | _ => none
  | .dup => match S with
    | v :: S' => if v.category = 1 then some (pc + 1, L, v :: v :: S', h) else none
    | _ => none
  | .dup2 => match S with
    | v :: w :: S' => if v.category = 1 ∧ w.category = 1 then some (pc + 1, L, v :: w :: v :: w :: S', h) else none
    | _ => none
  | .ifCond cn off => br1 cn off pc L S h
  | .if_icmp cn off => br2 cn off pc L S h
  | .ifnull off => match S with
    | .null :: S' => (jmp pc off).map fun t => (t, L, S', h)
    | .ref _ :: S' => some (pc + 3, L, S', h)
    | _ => none
  | .ifnonnull off => match S with
    | .ref _ :: S' => (jmp pc off).map fun t => (t, L, S', h)
    | .null :: S' => some (pc + 3, L, S', h)
    | _ => none
  | .goto off => (jmp pc off).map fun t => (t, L, S, h)
  | .tableswitch d lo hi offs => match S with
    | .int x :: S' => if x.toInt < lo ∨ hi < x.toInt then (jmp pc d).map fun t => (t, L, S', h) else match offs[(x.toInt - lo).toNat]? with
      | some o => (jmp pc o).map fun t => (t, L, S', h)
      | none => none
    | _ => none
  | .getfield _ => match S with
    | .ref a :: S' => (fld h a (aux / 32) (aux % 32)).map fun v => (pc + 3, L, v :: S', h)
    | _ => none
  | .putfield _ => match S with
    | v :: .ref a :: S' => (stf h a (aux / 32) (aux % 32) v).map fun h' => (pc + 3, L, S', h')
    | _ => none
  | .iaload => match S with
    | .int i :: .ref a :: S' => (ald h a .int i).map fun v => (pc + 1, L, v :: S', h)
    | _ => none
  | .baload => match S with
    | .int i :: .ref a :: S' => (ald h a .boolean i).map fun v => (pc + 1, L, v :: S', h)
    | _ => none
  | .laload => match S with
    | .int i :: .ref a :: S' => (ald h a .long i).map fun v => (pc + 1, L, v :: S', h)
    | _ => none
  | .aaload => match S with
    | .int i :: .ref a :: S' => (ald h a (.object (cName 1)) i).map fun v => (pc + 1, L, v :: S', h)
    | _ => none
  | .iastore => match S with
    | .int x :: .int i :: .ref a :: S' => (ast h a .int i (.int x)).map fun h' => (pc + 1, L, S', h')
    | _ => none
  | .bastore => match S with
    | .int x :: .int i :: .ref a :: S' => (ast h a .boolean i (.int x)).map fun h' => (pc + 1, L, S', h')
    | _ => none
  | .lastore => match S with
    | .long x :: .int i :: .ref a :: S' => (ast h a .long i (.long x)).map fun h' => (pc + 1, L, S', h')
    | _ => none
  | .aastore => match S with
    | .ref v :: .int i :: .ref a :: S' => if isO h v 1 = true then (ast h a (.object (cName 1)) i (.ref v)).map fun h' => (pc + 1, L, S', h') else none
    | _ => none
  | .arraylength => match S with
    | .ref a :: S' => (aln h a).map fun n => (pc + 1, L, .int n :: S', h)
    | _ => none
  | .newarray t => match S with
    | .int n :: S' => if 0 ≤ n.toInt ∧ n.toInt ≤ 60000 then some (pc + 2, L, .ref h.length :: S', h ++ [newA (newarray.typeOf t) n.toNatClampNeg]) else none
    | _ => none
  | .anewarray _ => match S with
    | .int n :: S' => if 0 ≤ n.toInt ∧ n.toInt ≤ 60000 ∧ aux = 1 then some (pc + 3, L, .ref h.length :: S', h ++ [newA (.object (cName 1)) n.toNatClampNeg]) else none
    | _ => none
  | .new _ => some (pc + 3, L, .ref h.length :: S, h ++ [newO aux])
  | .invokespecial _ => match S with
    | [.ref _] => if aux = 999 then some (pc + 3, L, [], h) else none
    | _ => none
  | _ => none
/-- an end: what is handed back -/
def isRet (m : Nat) (i : Instr) (S : List Value) : Option (Option Value) := match i with
  | .return_ => match S with
    | [] => if mRet m = none then some none else none
    | _ => none
  | .ireturn => match S with
    | [.int v] => match mRet m with
      | some t => if narrow t (.int v) = .int v then some (some (.int v)) else none
      | none => none
    | _ => none
  | .lreturn => match S with
    | [.long v] => if mRet m = some .long then some (some (.long v)) else none
    | _ => none
  | .areturn => match S with
    | [v] => if mRet m = some (.object (cName 1)) ∧ isR v = true then some (some v) else none
    | _ => none
  | _ => none
/-- a call: the called method, its arguments with the receiver, what stays below -/
def isCall (i : Instr) (aux : Nat) (S : List Value) (h : AH) : Option (Nat × List Value × List Value) := match i with
  | .invokevirtual _ => match S.drop (mArgs aux) with
    | .ref a :: rest => if isO h a (mCls aux) = true ∧ (rest.map fun v => v.category).sum ≤ 8 ∧ (len0 (.ref a :: (S.take (mArgs aux)).reverse)).length ≤ mMax aux then some (aux, .ref a :: (S.take (mArgs aux)).reverse, rest) else none
    | _ => none
  | .invokespecial _ => if aux = 999 then none else match S.drop (mArgs aux) with
    | .ref a :: rest => if (rest.map fun v => v.category).sum ≤ 8 ∧ (len0 (.ref a :: (S.take (mArgs aux)).reverse)).length ≤ mMax aux then some (aux, .ref a :: (S.take (mArgs aux)).reverse, rest) else none
    | _ => none
  | .invokestatic _ => if mArgs aux ≤ S.length ∧ ((S.drop (mArgs aux)).map fun v => v.category).sum ≤ 8 ∧ (len0 (S.take (mArgs aux)).reverse).length ≤ mMax aux then some (aux, (S.take (mArgs aux)).reverse, S.drop (mArgs aux)) else none
  | _ => none
def exec : Nat → Nat → Nat → AL → List Value → AH → Option ARes
  | 0, _, _, _, _, _ => none
  | n + 1, m, pc, L, S, h => match cd m pc with
    | none => none
    | some (i, _, aux) => match isRet m i S with
      | some r => some (r, h)
      | none => match isCall i aux S h with
        | some (c, as, rest) => match exec n c 0 (ent c as) [] h with
          | some (r, h1) => exec n m (pc + 3) L (r.toList ++ rest) h1
          | none => none
        | none => match stp m i aux pc L S h with
          | some (pc', L', S', h') => exec n m pc' L' S' h'
          | none => none
theorem exec_mono : ∀ (n m pc : Nat) (L : AL) (S : List Value) (h : AH) (r : ARes), exec n m pc L S h = some r → exec (n + 1) m pc L S h = some r := by
  intro n
  induction n with
  | zero => intro m pc L S h r e; simp [exec] at e
  | succ n ih =>
    intro m pc L S h r e
    rw [exec] at e ⊢
    cases hc : cd m pc with
    | none => rw [hc] at e; simp at e
    | some q =>
      obtain ⟨i, len, aux⟩ := q
      rw [hc] at e
      simp only at e ⊢
      cases hr : isRet m i S with
      | some v => rw [hr] at e; simpa using e
      | none =>
        rw [hr] at e
        simp only at e ⊢
        cases hk : isCall i aux S h with
        | some q =>
          obtain ⟨c, as, rest⟩ := q
          rw [hk] at e
          simp only at e ⊢
          cases he : exec n c 0 (ent c as) [] h with
          | none => rw [he] at e; simp at e
          | some q =>
            obtain ⟨v, h1⟩ := q
            rw [he] at e
            rw [ih _ _ _ _ _ _ he]
            exact ih _ _ _ _ _ _ e
        | none =>
          rw [hk] at e
          simp only at e ⊢
          cases hs : stp m i aux pc L S h with
          | none => rw [hs] at e; simp at e
          | some q =>
            obtain ⟨pc', L', S', h'⟩ := q
            rw [hs] at e
            exact ih _ _ _ _ _ _ e
theorem exec_le {n k m pc : Nat} {L : AL} {S : List Value} {h : AH} {r : ARes} (hk : n ≤ k) (e : exec n m pc L S h = some r) : exec k m pc L S h = some r := by
  induction hk with
  | refl => exact e
  | step _ ih => exact exec_mono _ _ _ _ _ _ _ ih
theorem exec_det {n k m pc : Nat} {L : AL} {S : List Value} {h : AH} {r q : ARes} (e : exec n m pc L S h = some r) (f : exec k m pc L S h = some q) : r = q := by
  have h1 := exec_le (Nat.le_max_left n k) e
  have h2 := exec_le (Nat.le_max_right n k) f
  exact Option.some.inj (h1.symm.trans h2)
/-- what a run comes to, if it ends -/
noncomputable def Run (m pc : Nat) (L : AL) (S : List Value) (h : AH) : Option ARes := @dite (Option ARes) (∃ r : ARes, ∃ n, exec n m pc L S h = some r) (Classical.propDecidable _) (fun w => some w.choose) (fun _ => none)
theorem Run_iff {m pc : Nat} {L : AL} {S : List Value} {h : AH} {r : ARes} : Run m pc L S h = some r ↔ ∃ n, exec n m pc L S h = some r := by
  unfold Run
  constructor
  · intro e
    split at e
    · rename_i w
      have e' := Option.some.inj e
      rw [← e']
      exact w.choose_spec
    · cases e
  · intro ⟨n, e⟩
    have w : ∃ r : ARes, ∃ n, exec n m pc L S h = some r := ⟨r, n, e⟩
    rw [dif_pos w]
    obtain ⟨k, f⟩ := w.choose_spec
    rw [exec_det f e]
noncomputable def RunM (m : Nat) (as : List Value) (h : AH) : Option ARes := Run m 0 (ent m as) [] h
theorem Run_ext {m pc m' pc' : Nat} {L L' : AL} {S S' : List Value} {h h' : AH} (e : ∀ r, (∃ n, exec n m pc L S h = some r) ↔ ∃ n, exec n m' pc' L' S' h' = some r) : Run m pc L S h = Run m' pc' L' S' h' := by
  cases h1 : Run m' pc' L' S' h' with
  | some r => exact Run_iff.mpr ((e r).mpr (Run_iff.mp h1))
  | none =>
    cases h2 : Run m pc L S h with
    | none => rfl
    | some r =>
      have := Run_iff.mpr ((e r).mp (Run_iff.mp h2))
      rw [h1] at this
      cases this
/-- a plain step -/
theorem Run_stp {m pc pc' aux len : Nat} {i : Instr} {L L' : AL} {S S' : List Value} {h h' : AH} (hc : cd m pc = some (i, len, aux)) (hr : isRet m i S = none) (hk : isCall i aux S h = none) (hs : stp m i aux pc L S h = some (pc', L', S', h')) : Run m pc L S h = Run m pc' L' S' h' := by
  refine Run_ext fun r => ⟨fun ⟨n, e⟩ => ?_, fun ⟨n, e⟩ => ⟨n + 1, ?_⟩⟩
  · cases n with
    | zero => simp [exec] at e
    | succ n =>
      rw [exec, hc] at e
      simp only [hr, hk, hs] at e
      exact ⟨n, e⟩
  · rw [exec, hc]
    simp only [hr, hk, hs]
    exact e
theorem Run_ret {m pc aux len : Nat} {i : Instr} {L : AL} {S : List Value} {h : AH} {r : Option Value} (hc : cd m pc = some (i, len, aux)) (hr : isRet m i S = some r) : Run m pc L S h = some (r, h) := by
  refine Run_iff.mpr ⟨1, ?_⟩
  rw [exec, hc]
  simp only [hr]
theorem Run_call {m pc aux len c : Nat} {i : Instr} {L : AL} {S as rest : List Value} {h : AH} (hc : cd m pc = some (i, len, aux)) (hr : isRet m i S = none) (hk : isCall i aux S h = some (c, as, rest)) : Run m pc L S h = (RunM c as h).bind fun q => Run m (pc + 3) L (q.1.toList ++ rest) q.2 := by
  cases h2 : (RunM c as h).bind fun q => Run m (pc + 3) L (q.1.toList ++ rest) q.2 with
  | some r =>
    obtain ⟨⟨v, h1⟩, e1, e2⟩ := Option.bind_eq_some_iff.mp h2
    obtain ⟨n1, f1⟩ := Run_iff.mp e1
    obtain ⟨n2, f2⟩ := Run_iff.mp e2
    refine Run_iff.mpr ⟨max n1 n2 + 1, ?_⟩
    rw [exec, hc]
    simp only [hr, hk]
    rw [exec_le (Nat.le_max_left n1 n2) f1]
    exact exec_le (Nat.le_max_right n1 n2) f2
  | none =>
    cases h1 : Run m pc L S h with
    | none => rfl
    | some r =>
      obtain ⟨n, e⟩ := Run_iff.mp h1
      cases n with
      | zero => simp [exec] at e
      | succ n =>
        rw [exec, hc] at e
        simp only [hr, hk] at e
        cases he : exec n c 0 (ent c as) [] h with
        | none => rw [he] at e; simp at e
        | some q =>
          obtain ⟨v, h1⟩ := q
          rw [he] at e
          have a1 : RunM c as h = some (v, h1) := Run_iff.mpr ⟨n, he⟩
          have a2 : Run m (pc + 3) L (v.toList ++ rest) h1 = some r := Run_iff.mpr ⟨n, e⟩
          rw [a1] at h2
          simp only [Option.bind_some] at h2
          rw [a2] at h2
          cases h2
end
section
/-! ===== How the small machine's state stands for the JVM's: cell k > 0 at the address N + (k - 1), cell 0 (the script) at b ===== -/
def am (N b : Nat) : Nat → Nat
  | 0 => b
  | k + 1 => N + k
theorem am_inj {N b i j : Nat} (hb : b < N) (h : am N b i = am N b j) : i = j := by
  cases i <;> cases j <;> simp only [am] at h <;> omega
theorem am_pos {N b k : Nat} (hk : k ≠ 0) : N ≤ am N b k := by
  cases k with
  | zero => exact absurd rfl hk
  | succ k => simp only [am]; omega
def cv (N b : Nat) : Value → Value
  | .ref a => .ref (am N b a)
  | v => v
theorem cv_cat (N b : Nat) (v : Value) : (cv N b v).category = v.category := by cases v <;> rfl
theorem cv_cats (N b : Nat) (S : List Value) : ((S.map (cv N b)).map fun v => v.category) = S.map fun v => v.category := by
  rw [List.map_map]
  exact List.map_congr_left fun v _ => cv_cat N b v
theorem cv_def (N b : Nat) (ty : FieldType) : cv N b (defaultValue ty) = defaultValue ty := by cases ty <;> rfl
theorem cv_narrow (N b : Nat) (ty : FieldType) (v : Value) (h : narrow ty v = v) : narrow ty (cv N b v) = cv N b v := by
  cases v <;> first | exact h | (cases ty <;> rfl)
theorem cv_fits (N b : Nat) (ty : FieldType) (v : Value) : fits ty (cv N b v) = fits ty v := by
  cases v <;> first | rfl | (cases ty <;> rfl)
def arAt (N b : Nat) (U : State) (a : Nat) (ty : FieldType) (n : Nat) (f : Nat → Value) (H : Heap) : Prop :=
  ∃ cell : Cell, H[a]? = some cell ∧ U.isArrayOf cell ty ∧ cell.vm ≠ .unknown ∧ cell.slots.size = n ∧ (∀ j, j < n → cell.slots[j]? = some (cv N b (f j))) ∧ (ty.isReference = true → va_RA U cell.cls ty)
def obAt (D : va_G) (N b a ci : Nat) (fs : List Value) (H : Heap) : Prop :=
  ∃ r : vw_C, vwCl[ci]? = some r ∧ fs.length = r.2.2 ∧ t_OB a (D.1 ci) r.2.2 (D.2 ci) H (vp_V (fs.map (cv N b)))
def atE (D : va_G) (U : State) (N b a : Nat) (e : AC) (H : Heap) : Prop := match e with
  | .inl (ty, n, f) => arAt N b U a ty n f H
  | .inr (ci, fs) => obAt D N b a ci fs H
def Rel (D : va_G) (U : State) (N b : Nat) (h : AH) (H : Heap) : Prop := b < N ∧ 0 < h.length ∧ H.size + 1 = N + h.length ∧ ∀ (k : Nat) (e : AC), h[k]? = some e → atE D U N b (am N b k) e H
theorem atE.kept {D : va_G} {U : State} {N b a : Nat} {e : AC} {H H1 : Heap} (h : atE D U N b a e H) (hq : H1[a]? = H[a]?) : atE D U N b a e H1 := by
  obtain ⟨ty, n, f⟩ | ⟨ci, fs⟩ := e
  · obtain ⟨cell, h1, h2⟩ := h
    exact ⟨cell, by rw [hq]; exact h1, h2⟩
  · obtain ⟨r, h1, h2, h3⟩ := h
    exact ⟨r, h1, h2, h3.kept hq⟩
theorem atE.moved {D : va_G} {u U : State} {N b a : Nat} {e : AC} {H : Heap} (hvm : u.vm.Alike U.vm) (h : atE D u N b a e H) : atE D U N b a e H := by
  obtain ⟨ty, n, f⟩ | ⟨ci, fs⟩ := e
  · obtain ⟨cell, h1, h2, h3, h4, h5, h6⟩ := h
    exact ⟨cell, h1, State.isArrayOf_alike hvm h2, h3, h4, h5, fun q => (h6 q).moved hvm⟩
  · exact h
theorem Rel.moved {D : va_G} {u U : State} {N b : Nat} {h : AH} {H : Heap} (hvm : u.vm.Alike U.vm) (hR : Rel D u N b h H) : Rel D U N b h H := ⟨hR.1, hR.2.1, hR.2.2.1, fun k e hk => (hR.2.2.2 k e hk).moved hvm⟩
theorem Rel.at {D : va_G} {U : State} {N b : Nat} {h : AH} {H : Heap} (hR : Rel D U N b h H) {k : Nat} {e : AC} (hk : h[k]? = some e) : atE D U N b (am N b k) e H := hR.2.2.2 k e hk
theorem Rel.set {D : va_G} {U : State} {N b : Nat} {h : AH} {H H' : Heap} (hR : Rel D U N b h H) {k : Nat} {e0 e : AC} (hk : h[k]? = some e0) (he : atE D U N b (am N b k) e H') (hz : H'.size = H.size) (ho : ∀ q : Nat, q ≠ am N b k → H'[q]? = H[q]?) : Rel D U N b (h.set k e) H' := by
  have hl := (List.getElem?_eq_some_iff.mp hk).1
  refine ⟨hR.1, by rw [List.length_set]; exact hR.2.1, by rw [hz, List.length_set]; exact hR.2.2.1, fun j e' hj => ?_⟩
  by_cases hjk : j = k
  · subst hjk
    rw [List.getElem?_set_self hl] at hj
    cases hj
    exact he
  · rw [List.getElem?_set_ne (Ne.symm hjk)] at hj
    exact (hR.2.2.2 j e' hj).kept (ho _ fun q => hjk (am_inj hR.1 q))
theorem Rel.end {D : va_G} {U : State} {N b : Nat} {h : AH} {H : Heap} (hR : Rel D U N b h H) : am N b h.length = H.size := by
  obtain ⟨h1, h2, h3, -⟩ := hR
  cases hl : h.length with
  | zero => omega
  | succ k => simp only [am]; omega
theorem Rel.lt {D : va_G} {U : State} {N b : Nat} {h : AH} {H : Heap} (hR : Rel D U N b h H) {k : Nat} (hk : k < h.length) : am N b k < H.size := by
  obtain ⟨h1, h2, h3, -⟩ := hR
  cases k with
  | zero => simp only [am]; omega
  | succ k => simp only [am]; omega
theorem Rel.push {D : va_G} {U : State} {N b : Nat} {h : AH} {H H' : Heap} (hR : Rel D U N b h H) {e : AC} (hz : H'.size = H.size + 1) (ho : ∀ q : Nat, q < H.size → H'[q]? = H[q]?) (he : atE D U N b H.size e H') : Rel D U N b (h ++ [e]) H' := by
  refine ⟨hR.1, by simp, by rw [hz]; have := hR.2.2.1; simp; omega, fun j e' hj => ?_⟩
  by_cases hl : j < h.length
  · rw [List.getElem?_append_left hl] at hj
    exact (hR.2.2.2 j e' hj).kept (ho _ (hR.lt hl))
  · have hj1 := (List.getElem?_eq_some_iff.mp hj).1
    have hj2 : j = h.length := by simp at hj1; omega
    subst hj2
    rw [List.getElem?_append_right (Nat.le_refl _), Nat.sub_self] at hj
    cases hj
    rw [hR.end]
    exact he
/-- how many slots the cells have -/
def szE (e : AC) : Nat := match e with
  | .inl (_, n, _) => n
  | .inr (ci, _) => nSl ci
def sl (h : AH) : Nat := (h.map szE).sum
theorem sl_set {h : AH} : ∀ {k : Nat} {e0 e : AC}, h[k]? = some e0 → szE e = szE e0 → sl (h.set k e) = sl h := by
  induction h with
  | nil => intro k e0 e hk; simp at hk
  | cons x t ih =>
    intro k e0 e hk hs
    cases k with
    | zero =>
      simp at hk
      subst hk
      simp [sl, hs]
    | succ k =>
      simp at hk
      have := ih hk hs
      simp only [sl, List.set_cons_succ, List.map_cons, List.sum_cons] at this ⊢
      omega
theorem sl_push (h : AH) (e : AC) : sl (h ++ [e]) = sl h + szE e := by simp [sl]
theorem sl_nil : sl [] = 0 := rfl
/-! the locals -/
def lR (N b nL : Nat) (ls : Array Slot) (L : AL) : Prop := ls.size = nL ∧ L.length = nL ∧ lv_wf ls ∧ ∀ (i : Nat) (v : Value), L[i]? = some (some v) → ls[i]? = some (.val (cv N b v))
def al (N b : Nat) (L : AL) : List (Nat × Value) := (List.range L.length).filterMap fun i => (L[i]?.getD none).map fun v => (i, cv N b v)
theorem al_mem {N b : Nat} {L : AL} {i : Nat} {x : Value} : (i, x) ∈ al N b L ↔ ∃ v, L[i]? = some (some v) ∧ x = cv N b v := by
  unfold al
  rw [List.mem_filterMap]
  constructor
  · rintro ⟨j, hj, h⟩
    cases hl : L[j]? with
    | none => rw [hl] at h; simp at h
    | some o =>
      rw [hl] at h
      cases o with
      | none => simp at h
      | some v =>
        simp at h
        obtain ⟨rfl, rfl⟩ := h
        exact ⟨v, hl, rfl⟩
  · rintro ⟨v, hv, rfl⟩
    refine ⟨i, List.mem_range.mpr (List.getElem?_eq_some_iff.mp hv).1, ?_⟩
    rw [hv]
    rfl
theorem lR.has {N b nL : Nat} {ls : Array Slot} {L : AL} (h : lR N b nL ls L) : lv_has ls nL (al N b L) := by
  refine ⟨h.1, h.2.2.1, fun q hq => ?_⟩
  obtain ⟨i, x⟩ := q
  obtain ⟨v, hv, rfl⟩ := al_mem.mp hq
  exact h.2.2.2 i v hv
theorem cl1_some {o : Option Value} {w : Value} (h : cl1 o = some w) : o = some w ∧ ¬ w.category = 2 := by
  cases o with
  | none => cases h
  | some v => cases v <;> first | (cases h; done) | (cases h; exact ⟨rfl, by decide⟩) | (cases h; exact ⟨rfl, fun q => by cases q⟩)
theorem st1_spec : ∀ (L : AL) (i : Nat) (v : Value) (L' : AL), st1 L i v = some L' → i < L.length ∧ L'.length = L.length ∧ ∀ (j : Nat) (w : Value), L'[j]? = some (some w) → (j = i ∧ w = v) ∨ (j ≠ i ∧ L[j]? = some (some w) ∧ ¬ (j + 1 = i ∧ w.category = 2)) := by
  intro L
  induction L with
  | nil => intro i v L' h; simp [st1] at h
  | cons o t ih =>
    intro i v L' h
    match i with
    | 0 =>
      simp only [st1, Option.some.injEq] at h
      subst h
      refine ⟨by simp, by simp, fun j w hj => ?_⟩
      cases j with
      | zero => simp at hj; exact Or.inl ⟨rfl, hj.symm⟩
      | succ j => exact Or.inr ⟨by omega, by simpa using hj, by omega⟩
    | 1 =>
      cases t with
      | nil => simp [st1] at h
      | cons o2 t =>
        simp only [st1, Option.some.injEq] at h
        subst h
        refine ⟨by simp, by simp, fun j w hj => ?_⟩
        match j with
        | 0 =>
          simp at hj
          obtain ⟨h1, h2⟩ := cl1_some hj
          exact Or.inr ⟨by omega, by simp [h1], fun q => h2 q.2⟩
        | 1 => simp at hj; exact Or.inl ⟨rfl, hj.symm⟩
        | j + 2 => exact Or.inr ⟨by omega, by simpa using hj, by omega⟩
    | i + 2 =>
      simp only [st1, Option.map_eq_some_iff] at h
      obtain ⟨t', h1, rfl⟩ := h
      obtain ⟨g1, g2, g3⟩ := ih (i + 1) v t' h1
      refine ⟨by simp; omega, by simp [g2], fun j w hj => ?_⟩
      cases j with
      | zero => exact Or.inr ⟨by omega, by simpa using hj, by omega⟩
      | succ j =>
        rcases g3 j w (by simpa using hj) with ⟨a, c⟩ | ⟨a, c, d⟩
        · exact Or.inl ⟨by omega, c⟩
        · exact Or.inr ⟨by omega, by simpa using c, fun q => d ⟨by omega, q.2⟩⟩
theorem st2_spec : ∀ (L : AL) (i : Nat) (v : Value) (L' : AL), st2 L i v = some L' → i + 1 < L.length ∧ L'.length = L.length ∧ ∀ (j : Nat) (w : Value), L'[j]? = some (some w) → (j = i ∧ w = v) ∨ (j ≠ i ∧ j ≠ i + 1 ∧ L[j]? = some (some w) ∧ ¬ (j + 1 = i ∧ w.category = 2)) := by
  intro L
  induction L with
  | nil => intro i v L' h; simp [st2] at h
  | cons o t ih =>
    intro i v L' h
    match i with
    | 0 =>
      cases t with
      | nil => simp [st2] at h
      | cons o2 t =>
        simp only [st2, Option.some.injEq] at h
        subst h
        refine ⟨by simp, by simp, fun j w hj => ?_⟩
        match j with
        | 0 => simp at hj; exact Or.inl ⟨rfl, hj.symm⟩
        | 1 => simp at hj
        | j + 2 => exact Or.inr ⟨by omega, by omega, by simpa using hj, by omega⟩
    | 1 =>
      match t with
      | [] => simp [st2] at h
      | [_] => simp [st2] at h
      | o2 :: o3 :: t =>
        simp only [st2, Option.some.injEq] at h
        subst h
        refine ⟨by simp, by simp, fun j w hj => ?_⟩
        match j with
        | 0 =>
          simp at hj
          obtain ⟨h1, h2⟩ := cl1_some hj
          exact Or.inr ⟨by omega, by omega, by simp [h1], fun q => h2 q.2⟩
        | 1 => simp at hj; exact Or.inl ⟨rfl, hj.symm⟩
        | 2 => simp at hj
        | j + 3 => exact Or.inr ⟨by omega, by omega, by simpa using hj, by omega⟩
    | i + 2 =>
      simp only [st2, Option.map_eq_some_iff] at h
      obtain ⟨t', h1, rfl⟩ := h
      obtain ⟨g1, g2, g3⟩ := ih (i + 1) v t' h1
      refine ⟨by simp; omega, by simp [g2], fun j w hj => ?_⟩
      cases j with
      | zero => exact Or.inr ⟨by omega, by omega, by simpa using hj, by omega⟩
      | succ j =>
        rcases g3 j w (by simpa using hj) with ⟨a, c⟩ | ⟨a, a2, c, d⟩
        · exact Or.inl ⟨by omega, c⟩
        · exact Or.inr ⟨by omega, by omega, by simpa using c, fun q => d ⟨by omega, q.2⟩⟩
theorem lR.st1 {N b nL i : Nat} {ls ls' : Array Slot} {L L' : AL} {v : Value} (h : lR N b nL ls L) (hs : st1 L i v = some L') (hh : lv_has ls' nL ((i, cv N b v) :: (al N b L).filter (fun q => !(q.1 == i) && !(q.1 + 1 == i && q.2.category == 2)))) : lR N b nL ls' L' := by
  obtain ⟨h1, h2, h3⟩ := st1_spec _ _ _ _ hs
  refine ⟨hh.1, h2.trans h.2.1, hh.2.1, fun j w hj => ?_⟩
  rcases h3 j w hj with ⟨rfl, rfl⟩ | ⟨a, c, d⟩
  · exact hh.2.2 (j, cv N b w) List.mem_cons_self
  · refine hh.2.2 (j, cv N b w) (List.mem_cons_of_mem _ (List.mem_filter.mpr ⟨al_mem.mpr ⟨w, c, rfl⟩, ?_⟩))
    simp only [Bool.and_eq_true, Bool.not_eq_true', beq_eq_false_iff_ne, Bool.and_eq_false_iff, cv_cat]
    refine ⟨a, ?_⟩
    by_cases q : j + 1 = i
    · exact Or.inr fun q2 => d ⟨q, q2⟩
    · exact Or.inl q
theorem lR.st2 {N b nL i : Nat} {ls ls' : Array Slot} {L L' : AL} {v : Value} (h : lR N b nL ls L) (hs : st2 L i v = some L') (hh : lv_has ls' nL ((i, cv N b v) :: (al N b L).filter (fun q => !(q.1 == i) && (!(q.1 == i + 1) && !(q.1 + 1 == i && q.2.category == 2))))) : lR N b nL ls' L' := by
  obtain ⟨h1, h2, h3⟩ := st2_spec _ _ _ _ hs
  refine ⟨hh.1, h2.trans h.2.1, hh.2.1, fun j w hj => ?_⟩
  rcases h3 j w hj with ⟨rfl, rfl⟩ | ⟨a, a2, c, d⟩
  · exact hh.2.2 (j, cv N b w) List.mem_cons_self
  · refine hh.2.2 (j, cv N b w) (List.mem_cons_of_mem _ (List.mem_filter.mpr ⟨al_mem.mpr ⟨w, c, rfl⟩, ?_⟩))
    simp only [Bool.and_eq_true, Bool.not_eq_true', beq_eq_false_iff_ne, Bool.and_eq_false_iff, cv_cat]
    refine ⟨a, a2, ?_⟩
    by_cases q : j + 1 = i
    · exact Or.inr fun q2 => d ⟨q, q2⟩
    · exact Or.inl q
/-- the locals with which a method begins -/
theorem len0_at {N b : Nat} : ∀ (vs : List Value) (i0 i : Nat) (v : Value), (len0 vs)[i]? = some (some v) → (i0 + i, cv N b v) ∈ lv_args i0 (vs.map (cv N b)) := by
  intro vs
  induction vs with
  | nil => intro i0 i v h; simp [len0] at h
  | cons w vs ih =>
    intro i0 i v h
    simp only [len0] at h
    simp only [List.map_cons, lv_args, cv_cat]
    by_cases hc : w.category = 2
    · rw [if_pos hc] at h ⊢
      match i with
      | 0 => simp at h; subst h; exact List.mem_cons_self
      | 1 => simp at h
      | i + 2 =>
        have := ih (i0 + 2) i v (by simpa using h)
        rw [show i0 + (i + 2) = i0 + 2 + i by omega]
        exact List.mem_cons_of_mem _ this
    · rw [if_neg hc] at h ⊢
      match i with
      | 0 => simp at h; subst h; exact List.mem_cons_self
      | i + 1 =>
        have := ih (i0 + 1) i v (by simpa using h)
        rw [show i0 + (i + 1) = i0 + 1 + i by omega]
        exact List.mem_cons_of_mem _ this
theorem len0_sl {N b : Nat} : ∀ (vs : List Value), (lg_sl (vs.map (cv N b))).length = (len0 vs).length := by
  intro vs
  induction vs with
  | nil => rfl
  | cons w vs ih =>
    have ih' : (List.flatMap (fun v : Value => if v.category = 2 then [Slot.val v, Slot.second] else [Slot.val v]) (vs.map (cv N b))).length = (len0 vs).length := ih
    simp only [List.map_cons, lg_sl, List.flatMap_cons, len0, cv_cat, List.length_append, ih']
    by_cases hc : w.category = 2
    · simp [hc]; omega
    · simp [hc]; omega
theorem lR_ent {N b m : Nat} (as : List Value) (hle : (len0 as).length ≤ mMax m) : lR N b (mMax m) ((lg_sl (as.map (cv N b)) ++ List.replicate (mMax m - (lg_sl (as.map (cv N b))).length) Slot.unset).toArray) (ent m as) := by
  have h := lv_entry (as.map (cv N b)) (n := mMax m) (by rw [len0_sl]; exact hle)
  refine ⟨h.1, by simp [ent]; omega, h.2.1, fun i v hi => ?_⟩
  have hi2 : (len0 as)[i]? = some (some v) := by
    unfold ent at hi
    by_cases hl : i < (len0 as).length
    · rwa [List.getElem?_append_left hl] at hi
    · rw [List.getElem?_append_right (by omega)] at hi
      have := List.mem_of_getElem? hi
      have := List.eq_of_mem_replicate this
      cases this
  have := h.2.2 _ (len0_at (N := N) (b := b) as 0 i v hi2)
  simpa using this
end
section
/-! ===== The JVM does what the small machine does: plain steps ===== -/
def KU (D : va_G) (U : State) : Prop := va_K D vwCl [] U ∧ (∀ w ∈ nwS, va_Nw w U) ∧ va_AO (cName 1) U
def Cx (D : va_G) (p : Program) (R : Room) (s : State) (mm : MethodId) (args : Array Value) (meth : Method) (c : Code) (m : Nat) : Prop :=
  p.tables.exec = Jvm.exec ∧ c.code = mBytes m ∧ c.maxLocals = mMax m ∧ s.vm.findClass (cName (mCls m)) = some mm.cls ∧ (∀ w ∈ gw, w.before args s = true) ∧ KU D s ∧ (mName m = "<init>" → meth.name = "<init>") ∧ meth.sig.returnType = mRet m ∧ meth.locks = false ∧ mFr m ≤ R.frames ∧ mLo m ≤ R.locals ∧ m < 131
/-- from every state that the abstract one stands for, the JVM comes to Q -/
def Go (p : Program) (l : Launch) (e : Env) (R : Room) (s : State) (mm : MethodId) (args : Array Value) (below : List Frame) (meth : Method) (c : Code) (Q : State → Prop) (D : va_G) (N b m c0 s0 pc : Nat) (L : AL) (S : List Value) (h : AH) : Prop :=
  ∀ (ls : Array Slot) (H : Heap) (locs : List Loc) (cells slots : Nat), Rel D s N b h H → lR N b (mMax m) ls L → (∀ q ∈ locs, N ≤ q.base) → cells + c0 = h.length → slots + s0 = sl h → W p l e R s mm args below meth c H locs cells slots Q (F0 mm pc ls (S.map (cv N b)))
theorem ld_spec {L L' : AL} {k q pc' : Nat} {S S' : List Value} {h h' : AH} {ok : Value → Bool} (hs : ld L k q S h ok = some (pc', L', S', h')) : ∃ v, L[k]? = some (some v) ∧ ok v = true ∧ pc' = q ∧ L' = L ∧ S' = v :: S ∧ h' = h := by
  unfold ld at hs
  split at hs
  · rename_i v hv
    split at hs
    · rename_i ho
      simp only [Option.some.injEq, Prod.mk.injEq] at hs
      exact ⟨v, hv, ho, hs.1.symm, hs.2.1.symm, hs.2.2.1.symm, hs.2.2.2.symm⟩
    · cases hs
  · cases hs
theorem sto_spec {L L' : AL} {k q pc' : Nat} {S S' : List Value} {h h' : AH} {ok : Value → Bool} (hs : sto L k q S h ok = some (pc', L', S', h')) : ∃ v, S = v :: S' ∧ ok v = true ∧ st1 L k v = some L' ∧ pc' = q ∧ h' = h := by
  unfold sto at hs
  split at hs
  · rename_i v S0
    split at hs
    · rename_i ho
      obtain ⟨L0, h1, h2⟩ := Option.map_eq_some_iff.mp hs
      simp only [Prod.mk.injEq] at h2
      obtain ⟨e1, e2, e3, e4⟩ := h2
      subst e1; subst e2; subst e3; subst e4
      exact ⟨v, rfl, ho, h1, rfl, rfl⟩
    · cases hs
  · cases hs
theorem stoJ_spec {L L' : AL} {k q pc' : Nat} {S S' : List Value} {h h' : AH} (hs : stoJ L k q S h = some (pc', L', S', h')) : ∃ x, S = .long x :: S' ∧ st2 L k (.long x) = some L' ∧ pc' = q ∧ h' = h := by
  unfold stoJ at hs
  split at hs
  · rename_i x S0
    obtain ⟨L0, h1, h2⟩ := Option.map_eq_some_iff.mp hs
    simp only [Prod.mk.injEq] at h2
    obtain ⟨e1, e2, e3, e4⟩ := h2
    subst e1; subst e2; subst e3; subst e4
    exact ⟨x, rfl, h1, rfl, rfl⟩
  · cases hs
theorem bin_spec {f : Int32 → Int32 → Int32} {q pc' : Nat} {L L' : AL} {S S' : List Value} {h h' : AH} (hs : bin f q L S h = some (pc', L', S', h')) : ∃ x y S0, S = .int y :: .int x :: S0 ∧ pc' = q ∧ L' = L ∧ S' = .int (f x y) :: S0 ∧ h' = h := by
  unfold bin at hs
  split at hs
  · simp only [Option.some.injEq, Prod.mk.injEq] at hs
    exact ⟨_, _, _, rfl, hs.1.symm, hs.2.1.symm, hs.2.2.1.symm, hs.2.2.2.symm⟩
  · cases hs
theorem binJ_spec {f : Int64 → Int64 → Int64} {q pc' : Nat} {L L' : AL} {S S' : List Value} {h h' : AH} (hs : binJ f q L S h = some (pc', L', S', h')) : ∃ x y S0, S = .long y :: .long x :: S0 ∧ pc' = q ∧ L' = L ∧ S' = .long (f x y) :: S0 ∧ h' = h := by
  unfold binJ at hs
  split at hs
  · simp only [Option.some.injEq, Prod.mk.injEq] at hs
    exact ⟨_, _, _, rfl, hs.1.symm, hs.2.1.symm, hs.2.2.1.symm, hs.2.2.2.symm⟩
  · cases hs
theorem shJ_spec {f : Int64 → Int32 → Int64} {q pc' : Nat} {L L' : AL} {S S' : List Value} {h h' : AH} (hs : shJ f q L S h = some (pc', L', S', h')) : ∃ x y S0, S = .int y :: .long x :: S0 ∧ pc' = q ∧ L' = L ∧ S' = .long (f x y) :: S0 ∧ h' = h := by
  unfold shJ at hs
  split at hs
  · simp only [Option.some.injEq, Prod.mk.injEq] at hs
    exact ⟨_, _, _, rfl, hs.1.symm, hs.2.1.symm, hs.2.2.1.symm, hs.2.2.2.symm⟩
  · cases hs
theorem jmp_spec {pc t : Nat} {off : Int} (h : jmp pc off = some t) : (pc : Int) + off = (t : Int) := by
  unfold jmp at h
  split at h
  · rename_i n e
    cases h
    exact e
  · cases h
theorem inB_spec {i : Int32} {n : Nat} (h : inB i n = true) : ¬ (i < 0 ∨ n ≤ i.toNatClampNeg) ∧ i.toNatClampNeg < n := by
  unfold inB at h
  rw [Bool.and_eq_true, decide_eq_true_eq, decide_eq_true_eq] at h
  have h1 : vp_in i n := vp_in_iff.mpr h
  exact ⟨h1, Nat.not_le.mp fun q => h1 (Or.inr q)⟩
theorem fld_spec {h : AH} {a ci k : Nat} {v : Value} (hs : fld h a ci k = some v) : ∃ fs, h[a]? = some (.inr (ci, fs)) ∧ fs[k]? = some v := by
  unfold fld at hs
  split at hs
  · rename_i cc fs e
    split at hs
    · rename_i q
      subst q
      exact ⟨fs, e, hs⟩
    · cases hs
  · cases hs
theorem stf_spec {h h' : AH} {a ci k : Nat} {v : Value} (hs : stf h a ci k v = some h') : ∃ fs, h[a]? = some (.inr (ci, fs)) ∧ a ≠ 0 ∧ k < fs.length ∧ fits (fty ci k) v = true ∧ narrow (fty ci k) v = v ∧ h' = h.set a (.inr (ci, fs.set k v)) := by
  unfold stf at hs
  split at hs
  · rename_i cc fs e
    split at hs
    · rename_i q
      obtain ⟨q0, q1, q2, q3⟩ := q
      subst q1
      unfold okF at q3
      rw [Bool.and_eq_true, decide_eq_true_eq] at q3
      exact ⟨fs, e, q0, q2, q3.1, q3.2, (Option.some.inj hs).symm⟩
    · cases hs
  · cases hs
theorem ald_spec {h : AH} {a : Nat} {ty : FieldType} {i : Int32} {v : Value} (hs : ald h a ty i = some v) : ∃ n f, h[a]? = some (.inl (ty, n, f)) ∧ inB i n = true ∧ v = f i.toNatClampNeg := by
  unfold ald at hs
  split at hs
  · rename_i t n f e
    split at hs
    · rename_i q
      obtain ⟨q1, q2⟩ := q
      subst q1
      exact ⟨n, f, e, q2, (Option.some.inj hs).symm⟩
    · cases hs
  · cases hs
theorem ast_spec {h h' : AH} {a : Nat} {ty : FieldType} {i : Int32} {v : Value} (hs : ast h a ty i v = some h') : ∃ n f, h[a]? = some (.inl (ty, n, f)) ∧ a ≠ 0 ∧ inB i n = true ∧ narrow ty v = v ∧ h' = h.set a (.inl (ty, n, updV f i.toNatClampNeg v)) := by
  unfold ast at hs
  split at hs
  · rename_i t n f e
    split at hs
    · rename_i q
      obtain ⟨q0, q1, q2, q3⟩ := q
      subst q1
      exact ⟨n, f, e, q0, q2, q3, (Option.some.inj hs).symm⟩
    · cases hs
  · cases hs
theorem aln_spec {h : AH} {a : Nat} {n : Int32} (hs : aln h a = some n) : ∃ ty k f, h[a]? = some (.inl (ty, k, f)) ∧ n = Int32.ofNat k := by
  unfold aln at hs
  split at hs
  · rename_i t k f e
    exact ⟨t, k, f, e, (Option.some.inj hs).symm⟩
  · cases hs
theorem isO_spec {h : AH} {a ci : Nat} (hs : isO h a ci = true) : ∃ fs, h[a]? = some (.inr (ci, fs)) := by
  unfold isO at hs
  split at hs
  · rename_i cc fs e
    rw [decide_eq_true_eq] at hs
    subst hs
    exact ⟨fs, e⟩
  · cases hs
/-! what the class tables say, for every class number -/
theorem cl_ok : ∀ (ci : Nat) (r : vw_C), vwCl[ci]? = some r → ci < 6 ∧ (∀ w ∈ u_ws r.1 r.2.1 r.2.2, w ∈ gw) ∧ (∀ k, k < r.2.2 → parseFieldDescriptor (r.2.1 k).2.2.1 = some (fty ci k)) ∧ (∀ x, x < r.2.2 → ∀ y, y < r.2.2 → x ≠ y → (r.2.1 x).2.1 ≠ (r.2.1 y).2.1) ∧ cT ci = r.2.1 ∧ nSl ci = r.2.2 ∧ cName ci = r.1
  | 0, r, h => by cases h; exact ⟨by decide, lay0, tyX0_ok, nmX0, rfl, rfl, rfl⟩
  | 1, r, h => by cases h; exact ⟨by decide, lay1, tyX1_ok, nmX1, rfl, rfl, rfl⟩
  | 2, r, h => by cases h; exact ⟨by decide, lay2, tyX2_ok, nmX2, rfl, rfl, rfl⟩
  | 3, r, h => by cases h; exact ⟨by decide, lay3, tyX3_ok, nmX3, rfl, rfl, rfl⟩
  | 4, r, h => by cases h; exact ⟨by decide, lay4, tyX4_ok, nmX4, rfl, rfl, rfl⟩
  | 5, r, h => by cases h; exact ⟨by decide, lay5, tyX5_ok, nmX5, rfl, rfl, rfl⟩
  | k + 6, r, h => by simp [vwCl] at h
theorem cl_at : ∀ ci, ci < 6 → ∃ r : vw_C, vwCl[ci]? = some r
  | 0, _ => ⟨_, rfl⟩
  | 1, _ => ⟨_, rfl⟩
  | 2, _ => ⟨_, rfl⟩
  | 3, _ => ⟨_, rfl⟩
  | 4, _ => ⟨_, rfl⟩
  | 5, _ => ⟨_, rfl⟩
  | k + 6, h => absurd h (by omega)
theorem inT_spec {t : List (Nat × Nat × Nat × Nat)} {o x a : Nat} (h : inT t o x a = true) : ∃ q ∈ t, q.1 = o ∧ q.2.1 = x ∧ q.2.2.1 = a := by
  unfold inT at h
  obtain ⟨q, hq, h2⟩ := List.any_eq_true.mp h
  simp only [Bool.and_eq_true, beq_iff_eq] at h2
  exact ⟨q, hq, h2.1, h2.2.1, h2.2.2⟩
theorem FL_in {o x a : Nat} (h : inT FLt o x a = true) : fCond o x a ∈ gw := by
  obtain ⟨q, hq, rfl, rfl, rfl⟩ := inT_spec h
  exact gw_of (List.all_eq_true.mp FLt_ok q hq)
theorem FN_in {o x a : Nat} (h : inT FNt o x a = true) : nCond o x a ∈ nwS := by
  obtain ⟨q, hq, rfl, rfl, rfl⟩ := inT_spec h
  exact List.mem_map.mpr ⟨q, hq, rfl⟩
theorem ML_in {o x a : Nat} (h : inT MLt o x a = true) : Cond.methodLink (cName o) x (mY a) ∈ gw := by
  obtain ⟨q, hq, rfl, rfl, rfl⟩ := inT_spec h
  exact gw_of (List.all_eq_true.mp MLt_ok q hq)
theorem CL_in {o x a : Nat} (h : inT CLt o x a = true) : Cond.classLink (cName o) x (cName a) ∈ gw := by
  obtain ⟨q, hq, rfl, rfl, rfl⟩ := inT_spec h
  exact gw_of (List.all_eq_true.mp CLt_ok q hq)
theorem KL_in {o x a : Nat} (h : inT KLt o x a = true) : Cond.constantLong (cName o) x (kcs.getD a 0) ∈ gw := by
  obtain ⟨q, hq, rfl, rfl, rfl⟩ := inT_spec h
  exact gw_of (List.all_eq_true.mp KLt_ok q hq)
theorem one_P {D : va_G} {N b a ci : Nat} {fs : List Value} {H : Heap} (h : obAt D N b a ci fs H) : va_P D vwCl [(a, .inr (ci, fs.map (cv N b)))] H := by
  intro k q hk
  have hz : k < 1 := (List.getElem?_eq_some_iff.mp hk).1
  rw [show k = 0 by omega] at hk
  cases hk
  obtain ⟨r, h1, h2, h3⟩ := h
  exact ⟨r, h1, h3⟩
theorem cl_own : ∀ (ci : Nat) (r : vw_C), vwCl[ci]? = some r → ∀ k, k < r.2.2 → (r.2.1 k).1 = r.1 ∨ (r.2.1 k).2.2.2 = false
  | 0, r, h => by cases h; decide +kernel
  | 1, r, h => by cases h; decide +kernel
  | 2, r, h => by cases h; decide +kernel
  | 3, r, h => by cases h; decide +kernel
  | 4, r, h => by cases h; decide +kernel
  | 5, r, h => by cases h; decide +kernel
  | k + 6, r, h => by simp [vwCl] at h
end
section
section STEP
variable {p : Program} {l : Launch} {e : Env} {R : Room} {s : State} {mm : MethodId} {args : Array Value} {below : List Frame} {meth : Method} {c : Code} {Q : State → Prop} {D : va_G} {N b m c0 s0 pc pc' aux : Nat} {L L' : AL} {S S' : List Value} {h h' : AH}
/-- getfield -/
theorem go_getfield (C : Cx D p R s mm args meth c m) {x : Nat} (hd : decode (mBytes m) pc = .ok (.getfield x, 3)) (hlk : lnk m (.getfield x) aux = true) {a : Nat} {v : Value} {S0 : List Value} (hf : fld h a (aux / 32) (aux % 32) = some v)
    (kk : Go p l e R s mm args below meth c Q D N b m c0 s0 (pc + 3) L (v :: S0) h) : Go p l e R s mm args below meth c Q D N b m c0 s0 pc L (.ref a :: S0) h := by
  intro ls H locs cells slots hR hl hq hc hsl
  obtain ⟨fs, hfs, hv⟩ := fld_spec hf
  have hob : obAt D N b (am N b a) (aux / 32) fs H := hR.at hfs
  obtain ⟨r, hr, hlen, hOB⟩ := id hob
  obtain ⟨h6, hin, hty, hnm, hcT, hnS, hcN⟩ := cl_ok _ _ hr
  unfold lnk at hlk
  simp only [Bool.and_eq_true, decide_eq_true_eq, Bool.or_eq_true] at hlk
  obtain ⟨⟨-, hk⟩, hlk⟩ := hlk
  rw [hnS] at hk
  obtain ⟨C1, C2, C3, C4, C5, C6, C7, C8, C9, C10, C11, C12⟩ := C
  obtain ⟨K1, K2, K3⟩ := C6
  have hv' : (fs.map (cv N b))[aux % 32]? = some (cv N b v) := by rw [List.getElem?_map, hv]; rfl
  rcases hlk with hlk | hlk
  · have hw := C5 _ (FL_in hlk)
    unfold fCond at hw
    rw [hcT] at hw
    exact va_get (D := D) (ci := aux / 32) (C := r.1) (T := r.2.1) (N := r.2.2) C1 C2 C5 hin C4 K1 (one_P hob) 0 rfl hr (aux % 32) hk hw (fun _ h9 => h9) hv' hd (kk ls H locs cells slots hR hl hq hc hsl)
  · have hw := K2 _ (FN_in hlk)
    unfold nCond at hw
    rw [hcT] at hw
    exact va_getN (D := D) (ci := aux / 32) (C := r.1) (T := r.2.1) (N := r.2.2) C1 C2 C5 hin C4 K1 (one_P hob) 0 rfl hr (aux % 32) hk (va_Nw.use rfl hw) (fun _ h9 => h9) hv' hd (kk ls H locs cells slots hR hl hq hc hsl)
/-- putfield -/
theorem go_putfield (C : Cx D p R s mm args meth c m) {x : Nat} (hd : decode (mBytes m) pc = .ok (.putfield x, 3)) (hlk : lnk m (.putfield x) aux = true) {a : Nat} {v : Value} {S0 : List Value} (hf : stf h a (aux / 32) (aux % 32) v = some h')
    (kk : Go p l e R s mm args below meth c Q D N b m c0 s0 (pc + 3) L S0 h') : Go p l e R s mm args below meth c Q D N b m c0 s0 pc L (v :: .ref a :: S0) h := by
  intro ls H locs cells slots hR hl hq hc hsl
  obtain ⟨fs, hfs, ha0, hkl, hfit, hnar, rfl⟩ := stf_spec hf
  have hob : obAt D N b (am N b a) (aux / 32) fs H := hR.at hfs
  obtain ⟨r, hr, hlen, hOB⟩ := id hob
  obtain ⟨h6, hin, hty, hnm, hcT, hnS, hcN⟩ := cl_ok _ _ hr
  unfold lnk at hlk
  simp only [Bool.and_eq_true, decide_eq_true_eq, Bool.or_eq_true, Bool.not_eq_true'] at hlk
  obtain ⟨⟨⟨-, hk⟩, hlk⟩, hfin⟩ := hlk
  rw [hnS] at hk
  obtain ⟨C1, C2, C3, C4, C5, C6, C7, C8, C9, C10, C11, C12⟩ := C
  obtain ⟨K1, K2, K3⟩ := C6
  have hw := C5 _ (FL_in hlk)
  unfold fCond at hw
  rw [hcT] at hw hfin
  have hap := va_apart (own := cName (mCls m)) C5 hin (fty (aux / 32)) hty hnm K1 hr
  obtain ⟨cell, q1, q2, q3, q4⟩ := hOB
  obtain ⟨hS, hfc, kC, hkC, hkind⟩ := K1.1 _ _ hr
  obtain ⟨cf, kf, fi, f, hi, hslot⟩ := hS _ hk
  have hst := (u_facts hfc hkC (u_lays C5 hin hk) hi).1
  have hn2 := cv_narrow N b _ _ hnar
  have hf2 : fits (fty (aux / 32) (aux % 32)) (cv N b v) = true := by rw [cv_fits]; exact hfit
  have hset : (fs.set (aux % 32) v).map (cv N b) = (fs.map (cv N b)).set (aux % 32) (cv N b v) := List.map_set
  have fin2 : ∀ H' : Heap, H'[am N b a]? = some (cell.setSlot f.slot (cv N b v)) → H'.size = H.size → (∀ q : Nat, q ≠ am N b a → H'[q]? = H[q]?) → W p l e R s mm args below meth c H' (locs ++ [⟨am N b a, f.slot⟩]) cells slots Q (F0 mm (pc + 3) ls (S0.map (cv N b))) := by
    intro H' e1 e2 e3
    refine kk ls H' _ cells slots (hR.set hfs ?_ e2 e3) hl (fun q hq' => ?_) (by rw [List.length_set]; exact hc) (hsl.trans (sl_set (e := .inr (aux / 32, fs.set (aux % 32) v)) hfs rfl).symm)
    · rw [hslot] at e1
      refine ⟨r, hr, by rw [List.length_set]; exact hlen, ?_⟩
      rw [hset]
      exact t_OB.to (V := updV (vp_V (fs.map (cv N b))) (aux % 32) (cv N b v)) ⟨_, e1, q2, q3, t_set q4 hap hk _⟩ (fun j _ => vp_updV_set (by rw [List.length_map]; exact hkl) _ j)
    · rcases List.mem_append.mp hq' with h9 | h9
      · exact hq q h9
      · rw [List.mem_singleton.mp h9]
        exact am_pos ha0
  have hlt : f.slot < cell.slots.size := by rw [hslot]; exact k2_hasslot (q4 _ hk)
  rcases hfin with hfin | hfin
  · have hlay := C5 _ (hin _ (u_in_lay hk))
    unfold u_lay at hlay
    rw [if_neg (by rw [hfin]; decide)] at hlay
    have h7 := u_store hfc hkC hkind hlay hi (hty _ hk) hn2 hf2
    exact W.putK C1 C2 (f := f) ⟨C4, hw, ⟨_, _, _, hi⟩, hst⟩ (by rw [q2]; exact h7) q1 q3 hlt rfl rfl hd fin2
  · obtain ⟨hin2, hcls⟩ := hfin
    have hown : (r.2.1 (aux % 32)).1 = cName (mCls m) ∨ (r.2.1 (aux % 32)).2.2.2 = false := by
      rw [← hcls, hcN]
      exact cl_own _ _ hr _ hk
    by_cases hff : (r.2.1 (aux % 32)).2.2.2 = true
    · have hlay := C5 _ (hin _ (u_in_lay hk))
      unfold u_lay at hlay
      rw [if_pos hff] at hlay
      have hdecl : (r.2.1 (aux % 32)).1 = cName (mCls m) := by
        rcases hown with h8 | h8
        · exact h8
        · rw [hff] at h8; cases h8
      have hcf : mm.cls = cf := by
        obtain ⟨_, _, c', _, _, _, -, -, hf', -, -, -, hown2, -⟩ := Cond.laysFinal_spec hlay
        have e1 : c' = cf := by have := hi.symm.trans hf'; simp at this; exact this.1.symm
        rw [hdecl] at hown2
        rw [← e1]; exact Option.some.inj (C4.symm.trans hown2)
      have h7 := u_fits hfc hkC hkind (Or.inr hlay) hi (hty _ hk) hn2 hf2
      exact W.putFinK C1 C2 C4 hw hi hst hcf (C7 hin2) (by rw [q2]; exact h7) q1 q3 hlt rfl rfl hd fin2
    · have hff' : (r.2.1 (aux % 32)).2.2.2 = false := by simpa using hff
      have hlay := C5 _ (hin _ (u_in_lay hk))
      unfold u_lay at hlay
      rw [if_neg hff] at hlay
      have h7 := u_store hfc hkC hkind hlay hi (hty _ hk) hn2 hf2
      exact W.putK C1 C2 (f := f) ⟨C4, hw, ⟨_, _, _, hi⟩, hst⟩ (by rw [q2]; exact h7) q1 q3 hlt rfl rfl hd fin2
/-- array reads -/
theorem go_ald (C : Cx D p R s mm args meth c m) {i : Instr} {ty : FieldType} (hd : decode (mBytes m) pc = .ok (i, 1)) (hi : (i = .iaload ∧ ty = .int) ∨ (i = .baload ∧ ty = .boolean) ∨ (i = .laload ∧ ty = .long) ∨ (i = .aaload ∧ ty.isReference = true)) {a : Nat} {j : Int32} {v : Value} {S0 : List Value} (hf : ald h a ty j = some v)
    (kk : Go p l e R s mm args below meth c Q D N b m c0 s0 (pc + 1) L (v :: S0) h) : Go p l e R s mm args below meth c Q D N b m c0 s0 pc L (.int j :: .ref a :: S0) h := by
  intro ls H locs cells slots hR hl hq hc hsl
  obtain ⟨n, f, hfs, hin, rfl⟩ := ald_spec hf
  obtain ⟨cell, g1, g2, g3, g4, g5, g6⟩ : arAt N b s (am N b a) ty n f H := hR.at hfs
  obtain ⟨i1, i2⟩ := inB_spec hin
  have hin' : ¬ (j < 0 ∨ cell.slots.size ≤ j.toNatClampNeg) := by rw [g4]; exact i1
  have k9 := kk ls H locs cells slots hR hl hq hc hsl
  rcases hi with ⟨rfl, rfl⟩ | ⟨rfl, rfl⟩ | ⟨rfl, rfl⟩ | ⟨rfl, hrf⟩
  · exact W.iald C.1 C.2.1 g1 g2 g3 hin' (g5 _ i2) rfl rfl hd k9
  · exact W.zald C.1 C.2.1 g1 g2 g3 hin' (g5 _ i2) rfl rfl hd k9
  · exact W.lald C.1 C.2.1 g1 g2 g3 hin' (g5 _ i2) rfl rfl hd k9
  · exact W.aald C.1 C.2.1 g1 g2 hrf g3 hin' (g5 _ i2) rfl rfl hd k9
theorem arAt_set {U : State} {a : Nat} {ty : FieldType} {n j : Nat} {f : Nat → Value} {H' : Heap} {cell : Cell} {v : Value} (g2 : U.isArrayOf cell ty) (g3 : cell.vm ≠ .unknown) (g4 : cell.slots.size = n) (g5 : ∀ j, j < n → cell.slots[j]? = some (cv N b (f j))) (g6 : ty.isReference = true → va_RA U cell.cls ty) (hj : j < n) (e1 : H'[a]? = some (cell.setSlot j (cv N b v))) : arAt N b U a ty n (updV f j v) H' := by
  refine ⟨_, e1, g2, g3, by rw [k2_slotsz]; exact g4, fun k hk => ?_, g6⟩
  by_cases hkj : k = j
  · subst hkj
    rw [Cell.slots_setSlot_self _ (by rw [g4]; exact hj)]
    simp [updV]
  · rw [Cell.slots_setSlot_ne _ (Ne.symm hkj), g5 k hk]
    simp [updV, hkj]
/-- array stores -/
theorem go_ast (C : Cx D p R s mm args meth c m) {i : Instr} {ty : FieldType} {v : Value} (hd : decode (mBytes m) pc = .ok (i, 1)) (hi : (i = .iastore ∧ ty = .int ∧ ∃ x, v = .int x) ∨ (i = .bastore ∧ ty = .boolean ∧ ∃ x, v = .int x) ∨ (i = .lastore ∧ ty = .long ∧ ∃ x, v = .long x) ∨ (i = .aastore ∧ ty = .object (cName 1) ∧ ∃ x, v = .ref x ∧ isO h x 1 = true)) {a : Nat} {j : Int32} {S0 : List Value} (hf : ast h a ty j v = some h')
    (kk : Go p l e R s mm args below meth c Q D N b m c0 s0 (pc + 1) L S0 h') : Go p l e R s mm args below meth c Q D N b m c0 s0 pc L (v :: .int j :: .ref a :: S0) h := by
  intro ls H locs cells slots hR hl hq hc hsl
  obtain ⟨n, f, hfs, ha0, hin, hnar, rfl⟩ := ast_spec hf
  obtain ⟨cell, g1, g2, g3, g4, g5, g6⟩ : arAt N b s (am N b a) ty n f H := hR.at hfs
  obtain ⟨i1, i2⟩ := inB_spec hin
  have hin' : ¬ (j < 0 ∨ cell.slots.size ≤ j.toNatClampNeg) := by rw [g4]; exact i1
  have fin2 : ∀ H' : Heap, H'[am N b a]? = some (cell.setSlot j.toNatClampNeg (cv N b v)) → H'.size = H.size → (∀ q : Nat, q ≠ am N b a → H'[q]? = H[q]?) → W p l e R s mm args below meth c H' (locs ++ [⟨am N b a, j.toNatClampNeg⟩]) cells slots Q (F0 mm (pc + 1) ls (S0.map (cv N b))) := by
    intro H' e1 e2 e3
    refine kk ls H' _ cells slots (hR.set hfs (arAt_set g2 g3 g4 g5 g6 i2 e1) e2 e3) hl (fun q hq' => ?_) (by rw [List.length_set]; exact hc) (hsl.trans (sl_set (e := .inl (ty, n, updV f j.toNatClampNeg v)) hfs rfl).symm)
    rcases List.mem_append.mp hq' with h9 | h9
    · exact hq q h9
    · rw [List.mem_singleton.mp h9]
      exact am_pos ha0
  rcases hi with ⟨rfl, rfl, x, rfl⟩ | ⟨rfl, rfl, x, rfl⟩ | ⟨rfl, rfl, x, rfl⟩ | ⟨rfl, rfl, x, rfl, hx⟩
  · exact W.iast C.1 C.2.1 g1 g2 g3 hin' rfl rfl hd fin2
  · refine W.zast C.1 C.2.1 g1 g2 g3 hin' rfl rfl hd fun H' e1 => ?_
    rw [hnar] at e1
    exact fin2 H' e1
  · exact W.last C.1 C.2.1 g1 g2 g3 hin' rfl rfl hd fin2
  · obtain ⟨fs, hx2⟩ := isO_spec hx
    obtain ⟨r, hr, -, cellV, k1, k2, k3, -⟩ : obAt D N b (am N b x) 1 fs H := hR.at hx2
    have hK := C.2.2.2.2.2.1.1.1 1 r hr
    obtain ⟨kA, comp, r1, r2, r3, -⟩ := g6 rfl
    have hcN := (cl_ok _ _ hr).2.2.2.2.2.2
    rw [hcN] at r3
    have hcomp : comp = D.1 1 := Option.some.inj (r3.symm.trans hK.2.1)
    subst hcomp
    obtain ⟨kC, hkC, -⟩ := hK.2.2
    exact W.aast C.1 C.2.1 g1 g2.1 g3 r1 r2 rfl hkC ⟨fun q => hin' (Or.inl q), by rw [g4]; exact i2⟩ k1 (fun q h9 => by rw [k3] at h9; cases h9) (by rw [k2]; exact hkC) (by rw [k2]; exact va_assign hK.2) rfl rfl hd fin2
theorem go_len (C : Cx D p R s mm args meth c m) (hd : decode (mBytes m) pc = .ok (.arraylength, 1)) {a : Nat} {n : Int32} {S0 : List Value} (hf : aln h a = some n)
    (kk : Go p l e R s mm args below meth c Q D N b m c0 s0 (pc + 1) L (.int n :: S0) h) : Go p l e R s mm args below meth c Q D N b m c0 s0 pc L (.ref a :: S0) h := by
  intro ls H locs cells slots hR hl hq hc hsl
  obtain ⟨ty, k, f, hfs, rfl⟩ := aln_spec hf
  obtain ⟨cell, g1, g2, g3, g4, g5, g6⟩ : arAt N b s (am N b a) ty k f H := hR.at hfs
  exact W.alen C.1 C.2.1 g1 g2 (by rw [g4] <;> rfl) rfl rfl hd (kk ls H locs cells slots hR hl hq hc hsl)
theorem nat_of_le {n : Int32} (h0 : 0 ≤ n.toInt) (h1 : n.toInt ≤ 60000) : ¬ n < 0 ∧ n.toNatClampNeg ≤ 60000 := by
  refine ⟨fun q => ?_, ?_⟩
  · rw [Int32.lt_iff_toInt_lt, Int32.toInt_zero] at q
    omega
  · show n.toInt.toNat ≤ 60000
    omega
theorem go_newarray (C : Cx D p R s mm args meth c m) {t : ArrayType} (hd : decode (mBytes m) pc = .ok (.newarray t, 2)) (hlk : lnk m (.newarray t) aux = true) {n : Int32} {S0 : List Value} (h0 : 0 ≤ n.toInt) (h1 : n.toInt ≤ 60000) (hcap : (h ++ [newA (newarray.typeOf t) n.toNatClampNeg]).length ≤ R.cells + c0 ∧ sl (h ++ [newA (newarray.typeOf t) n.toNatClampNeg]) ≤ R.slots + s0)
    (kk : Go p l e R s mm args below meth c Q D N b m c0 s0 (pc + 2) L (.ref h.length :: S0) (h ++ [newA (newarray.typeOf t) n.toNatClampNeg])) : Go p l e R s mm args below meth c Q D N b m c0 s0 pc L (.int n :: S0) h := by
  intro ls H locs cells slots hR hl hq hc hsl
  obtain ⟨n1, n2⟩ := nat_of_le h0 h1
  rw [sl_push, List.length_append] at hcap
  have hz : szE (newA (newarray.typeOf t) n.toNatClampNeg) = n.toNatClampNeg := rfl
  rw [hz] at hcap
  obtain ⟨z1, z2⟩ := hcap
  simp only [List.length_singleton] at z1
  have hw : (Cond.arrayClass (newarray.typeOf t)).before args s = true := by
    refine C.2.2.2.2.1 _ ?_
    cases t with
    | int => exact wA_int
    | boolean => exact wA_boolean
    | long => exact wA_long
    | _ => cases hlk
  have hbt : n.toNatClampNeg * componentBytes (newarray.typeOf t) ≤ 536870912 := by
    have : componentBytes (newarray.typeOf t) ≤ 8 := by cases t <;> decide
    calc n.toNatClampNeg * componentBytes (newarray.typeOf t) ≤ 60000 * 8 := Nat.mul_le_mul n2 this
      _ ≤ 536870912 := by decide
  refine va_newaK C.1 C.2.1 hw rfl hd rfl n1 rfl hbt (by omega) (by omega) rfl fun H1 cA e1 z1 o1 hAr hNm => ?_
  have hR' : Rel D s N b (h ++ [newA (newarray.typeOf t) n.toNatClampNeg]) H1 := by
    refine hR.push z1 o1 ⟨_, e1, hAr _ _, (fun q => by cases q), arrV_size _ _ _, fun j hj => ?_, fun hrf => ?_⟩
    · rw [arrV_read _ _ hj, cv_def]
    · cases t <;> cases hrf
  have := kk ls H1 locs (cells + 1) (slots + n.toNatClampNeg) hR' hl hq (by rw [List.length_append, List.length_singleton]; omega) (by rw [sl_push, hz]; omega)
  rw [List.map_cons, show cv N b (.ref h.length) = .ref (am N b h.length) from rfl, hR.end] at this
  exact this
theorem go_anewarray (C : Cx D p R s mm args meth c m) {x : Nat} (hd : decode (mBytes m) pc = .ok (.anewarray x, 3)) (hlk : lnk m (.anewarray x) aux = true) {n : Int32} {S0 : List Value} (h0 : 0 ≤ n.toInt) (h1 : n.toInt ≤ 60000) (hcap : (h ++ [newA (.object (cName 1)) n.toNatClampNeg]).length ≤ R.cells + c0 ∧ sl (h ++ [newA (.object (cName 1)) n.toNatClampNeg]) ≤ R.slots + s0)
    (kk : Go p l e R s mm args below meth c Q D N b m c0 s0 (pc + 3) L (.ref h.length :: S0) (h ++ [newA (.object (cName 1)) n.toNatClampNeg])) : Go p l e R s mm args below meth c Q D N b m c0 s0 pc L (.int n :: S0) h := by
  intro ls H locs cells slots hR hl hq hc hsl
  obtain ⟨n1, n2⟩ := nat_of_le h0 h1
  rw [sl_push, List.length_append] at hcap
  have hz : szE (newA (.object (cName 1)) n.toNatClampNeg) = n.toNatClampNeg := rfl
  rw [hz] at hcap
  obtain ⟨z1, z2⟩ := hcap
  simp only [List.length_singleton] at z1
  unfold lnk at hlk
  simp only [Bool.and_eq_true, decide_eq_true_eq] at hlk
  obtain ⟨rfl, hlk⟩ := hlk
  have hw := C.2.2.2.2.1 _ (CL_in hlk)
  refine W.anew C.1 C.2.1 C.2.2.2.1 hw (va_AO.use C.2.2.2.2.2.1.2.2) rfl hd rfl n1 (by omega) (by omega) (by omega) fun cA kA comp f1 f2 f3 f4 => ?_
  generalize hH1 : H.push ({ cls := cA, slots := Array.replicate n.toNatClampNeg .null, vm := .none } : Cell) = H1
  have y1 : H1.size = H.size + 1 := by rw [← hH1, Array.size_push]
  have e1 : H1[H.size]? = some (arrV cA n.toNatClampNeg (fun _ => .null)) := by rw [← hH1, Array.getElem?_push_size, ← arrV_new]
  have o1 : ∀ q : Nat, q < H.size → H1[q]? = H[q]? := by
    intro q hq9
    rw [← hH1, Array.getElem?_push, if_neg (Nat.ne_of_lt hq9)]
  have hR' : Rel D s N b (h ++ [newA (.object (cName 1)) n.toNatClampNeg]) H1 := by
    refine hR.push y1 o1 ⟨_, e1, ⟨fun q h9 => (by cases h9), kA, f2, comp, f3⟩, (fun q => by cases q), arrV_size _ _ _, fun j hj => ?_, fun _ => ⟨kA, comp, f2, f3, f4, f1⟩⟩
    rw [arrV_read _ _ hj, cv_def]
    rfl
  have := kk ls H1 locs (cells + 1) (slots + n.toNatClampNeg) hR' hl hq (by rw [List.length_append, List.length_singleton]; omega) (by rw [sl_push, hz]; omega)
  rw [List.map_cons, show cv N b (.ref h.length) = .ref (am N b h.length) from rfl, hR.end] at this
  exact this
theorem go_new (C : Cx D p R s mm args meth c m) {x : Nat} (hd : decode (mBytes m) pc = .ok (.new x, 3)) (hlk : lnk m (.new x) aux = true) (hcap : (h ++ [newO aux]).length ≤ R.cells + c0 ∧ sl (h ++ [newO aux]) ≤ R.slots + s0)
    (kk : Go p l e R s mm args below meth c Q D N b m c0 s0 (pc + 3) L (.ref h.length :: S) (h ++ [newO aux])) : Go p l e R s mm args below meth c Q D N b m c0 s0 pc L S h := by
  intro ls H locs cells slots hR hl hq hc hsl
  rw [sl_push, List.length_append] at hcap
  have hz : szE (newO aux) = nSl aux := rfl
  rw [hz] at hcap
  obtain ⟨z1, z2⟩ := hcap
  simp only [List.length_singleton] at z1
  unfold lnk at hlk
  simp only [Bool.and_eq_true, decide_eq_true_eq] at hlk
  obtain ⟨h6, hlk⟩ := hlk
  have hw := C.2.2.2.2.1 _ (CL_in hlk)
  have hnw := List.all_eq_true.mp NWt_ok aux (List.mem_range.mpr h6)
  rw [Bool.and_eq_true] at hnw
  have w1 := C.2.2.2.2.1 _ (gw_of hnw.1)
  have w2 := C.2.2.2.2.1 _ (gw_of hnw.2)
  obtain ⟨r, hr⟩ := cl_at aux h6
  obtain ⟨-, hin, hty, hnm, hcT, hnS, hcN⟩ := cl_ok _ _ hr
  have hKn := C.2.2.2.2.2.1.1.1 aux r hr
  refine W.newcK C.1 C.2.1 C.2.2.2.1 hw w1 w2 rfl hd (by omega) (by omega) (by rw [hcN]; exact hKn.2.1) rfl fun H1 kC hkC e1 y1 o1 => ?_
  have hR' : Rel D s N b (h ++ [newO aux]) H1 := by
    refine hR.push y1 o1 ⟨r, hr, by simp [hnS], ?_⟩
    refine (u_born (fty aux) C.2.2.2.2.1 hin hKn hkC e1 hty).to fun k hk => ?_
    simp only [vp_V, List.map_map, List.getD_eq_getElem?_getD, List.getElem?_map]
    rw [hnS, List.getElem?_range hk]
    simp [cv_def]
  have := kk ls H1 locs (cells + 1) (slots + nSl aux) hR' hl hq (by rw [List.length_append, List.length_singleton]; omega) (by rw [sl_push, hz]; omega)
  rw [List.map_cons, show cv N b (.ref h.length) = .ref (am N b h.length) from rfl, hR.end] at this
  exact this
end STEP
end
section
section PLAIN
variable {p : Program} {l : Launch} {e : Env} {R : Room} {s : State} {mm : MethodId} {args : Array Value} {below : List Frame} {meth : Method} {c : Code} {Q : State → Prop} {D : va_G} {N b m c0 s0 pc pc' aux : Nat} {L L' : AL} {S S' : List Value} {h h' : AH}
theorem isI_of {v : Value} (hv : isI v = true) : ∃ x, v = .int x := by
  cases v <;> first | exact ⟨_, rfl⟩ | cases hv
theorem isJ_of {v : Value} (hv : isJ v = true) : ∃ x, v = .long x := by
  cases v <;> first | exact ⟨_, rfl⟩ | cases hv
theorem isR_of {v : Value} (hv : isR v = true) : v = .null ∨ ∃ x, v = .ref x := by
  cases v <;> first | exact Or.inl rfl | exact Or.inr ⟨_, rfl⟩ | cases hv
theorem go_if (C : Cx D p R s mm args meth c m) {cn : Jvm.ClassFile.Cond} {off : Int} (hd : decode (mBytes m) pc = .ok (.ifCond cn off, 3)) (hs : br1 cn off pc L S h = some (pc', L', S', h')) (kk : Go p l e R s mm args below meth c Q D N b m c0 s0 pc' L' S' h') : Go p l e R s mm args below meth c Q D N b m c0 s0 pc L S h := by
  unfold br1 at hs
  split at hs
  · rename_i x S0
    obtain ⟨t, ht, h2⟩ := Option.map_eq_some_iff.mp hs
    simp only [Prod.mk.injEq] at h2
    obtain ⟨e1, e2, e3, e4⟩ := h2
    subst e2; subst e3; subst e4
    have ht := jmp_spec ht
    intro ls H locs cells slots hR hl hq hc hsl
    have k9 := kk ls H locs cells slots hR hl hq hc hsl
    rw [← e1] at k9
    cases cn with
    | eq => exact lv_if_eq C.1 C.2.1 hd ht (fun hc => by simpa [cI, hc] using k9) (fun hc => by simpa [cI, hc] using k9)
    | ne => exact lv_if_ne C.1 C.2.1 hd ht (fun hc => by simpa [cI, hc] using k9) (fun hc => by simpa [cI, hc] using k9)
    | lt => exact lv_if_lt C.1 C.2.1 hd ht (fun hc => by rw [if_pos (by simp only [cI]; exact decide_eq_true hc)] at k9; exact k9) (fun hc => by rw [if_neg (by simp only [cI]; exact fun q => hc (of_decide_eq_true q))] at k9; exact k9)
    | ge => exact lv_if_ge C.1 C.2.1 hd ht (fun hc => by rw [if_pos (by simp only [cI]; exact decide_eq_true hc)] at k9; exact k9) (fun hc => by rw [if_neg (by simp only [cI]; exact fun q => hc (of_decide_eq_true q))] at k9; exact k9)
    | gt => exact lv_if_gt C.1 C.2.1 hd ht (fun hc => by rw [if_pos (by simp only [cI]; exact decide_eq_true hc)] at k9; exact k9) (fun hc => by rw [if_neg (by simp only [cI]; exact fun q => hc (of_decide_eq_true q))] at k9; exact k9)
    | le => exact lv_if_le C.1 C.2.1 hd ht (fun hc => by rw [if_pos (by simp only [cI]; exact decide_eq_true hc)] at k9; exact k9) (fun hc => by rw [if_neg (by simp only [cI]; exact fun q => hc (of_decide_eq_true q))] at k9; exact k9)
  · cases hs
theorem go_icmp (C : Cx D p R s mm args meth c m) {cn : Jvm.ClassFile.Cond} {off : Int} (hd : decode (mBytes m) pc = .ok (.if_icmp cn off, 3)) (hs : br2 cn off pc L S h = some (pc', L', S', h')) (kk : Go p l e R s mm args below meth c Q D N b m c0 s0 pc' L' S' h') : Go p l e R s mm args below meth c Q D N b m c0 s0 pc L S h := by
  unfold br2 at hs
  split at hs
  · rename_i y x S0
    obtain ⟨t, ht, h2⟩ := Option.map_eq_some_iff.mp hs
    simp only [Prod.mk.injEq] at h2
    obtain ⟨e1, e2, e3, e4⟩ := h2
    subst e2; subst e3; subst e4
    have ht := jmp_spec ht
    intro ls H locs cells slots hR hl hq hc hsl
    have k9 := kk ls H locs cells slots hR hl hq hc hsl
    rw [← e1] at k9
    cases cn with
    | eq => exact lv_icmp_eq C.1 C.2.1 hd ht (fun hc => by simpa [cI, hc] using k9) (fun hc => by simpa [cI, hc] using k9)
    | ne => exact lv_icmp_ne C.1 C.2.1 hd ht (fun hc => by simpa [cI, hc] using k9) (fun hc => by simpa [cI, hc] using k9)
    | lt => exact lv_icmp_lt C.1 C.2.1 hd ht (fun hc => by rw [if_pos (by simp only [cI]; exact decide_eq_true hc)] at k9; exact k9) (fun hc => by rw [if_neg (by simp only [cI]; exact fun q => hc (of_decide_eq_true q))] at k9; exact k9)
    | ge => exact lv_icmp_ge C.1 C.2.1 hd ht (fun hc => by rw [if_pos (by simp only [cI]; exact decide_eq_true hc)] at k9; exact k9) (fun hc => by rw [if_neg (by simp only [cI]; exact fun q => hc (of_decide_eq_true q))] at k9; exact k9)
    | gt => exact lv_icmp_gt C.1 C.2.1 hd ht (fun hc => by rw [if_pos (by simp only [cI]; exact decide_eq_true hc)] at k9; exact k9) (fun hc => by rw [if_neg (by simp only [cI]; exact fun q => hc (of_decide_eq_true q))] at k9; exact k9)
    | le => exact lv_icmp_le C.1 C.2.1 hd ht (fun hc => by rw [if_pos (by simp only [cI]; exact decide_eq_true hc)] at k9; exact k9) (fun hc => by rw [if_neg (by simp only [cI]; exact fun q => hc (of_decide_eq_true q))] at k9; exact k9)
  · cases hs
theorem go_sw (C : Cx D p R s mm args meth c m) {d lo hi : Int} {offs : Array Int} {len : Nat} (hd : decode (mBytes m) pc = .ok (.tableswitch d lo hi offs, len)) (hs : stp m (.tableswitch d lo hi offs) aux pc L S h = some (pc', L', S', h')) (kk : Go p l e R s mm args below meth c Q D N b m c0 s0 pc' L' S' h') : Go p l e R s mm args below meth c Q D N b m c0 s0 pc L S h := by
  simp only [stp] at hs
  split at hs
  · rename_i x S0
    split at hs
    · rename_i hx
      obtain ⟨t, ht, h2⟩ := Option.map_eq_some_iff.mp hs
      simp only [Prod.mk.injEq] at h2
      obtain ⟨e1, e2, e3, e4⟩ := h2
      subst e1; subst e2; subst e3; subst e4
      intro ls H locs cells slots hR hl hq hc hsl
      exact lv_tableOut C.1 C.2.1 hd hx (jmp_spec ht) (kk ls H locs cells slots hR hl hq hc hsl)
    · rename_i hx
      split at hs
      · rename_i o ho
        obtain ⟨t, ht, h2⟩ := Option.map_eq_some_iff.mp hs
        simp only [Prod.mk.injEq] at h2
        obtain ⟨e1, e2, e3, e4⟩ := h2
        subst e1; subst e2; subst e3; subst e4
        intro ls H locs cells slots hR hl hq hc hsl
        exact lv_tableIn C.1 C.2.1 hd (fun q => hx (Or.inl q)) (fun q => hx (Or.inr q)) ho (jmp_spec ht) (kk ls H locs cells slots hR hl hq hc hsl)
      · cases hs
  · cases hs
theorem go_sto (C : Cx D p R s mm args meth c m) {i : Instr} {k len : Nat} {v : Value} (hd : decode (mBytes m) pc = .ok (i, len)) (hst : st1 L k v = some L')
    (hi : (i = .istore k ∧ len = 2 ∧ ∃ x, v = .int x) ∨ (∃ f : Fin 4, i = .istore_n f ∧ len = 1 ∧ (f : Nat) = k ∧ ∃ x, v = .int x) ∨ (i = .astore k ∧ len = 2 ∧ isR v = true) ∨ (∃ f : Fin 4, i = .astore_n f ∧ len = 1 ∧ (f : Nat) = k ∧ isR v = true))
    (kk : Go p l e R s mm args below meth c Q D N b m c0 s0 (pc + len) L' S h) : Go p l e R s mm args below meth c Q D N b m c0 s0 pc L (v :: S) h := by
  intro ls H locs cells slots hR hl hq hc hsl
  have hn : k < mMax m := by rw [← hl.2.1]; exact (st1_spec _ _ _ _ hst).1
  rcases hi with ⟨rfl, rfl, x, rfl⟩ | ⟨f, rfl, rfl, hf, x, rfl⟩ | ⟨rfl, rfl, hv⟩ | ⟨f, rfl, rfl, hf, hv⟩
  · exact lv_istore C.1 C.2.1 hd hl.has hn rfl (fun ls' hh => kk ls' H locs cells slots hR (hl.st1 hst hh) hq hc hsl)
  · exact lv_istore_n C.1 C.2.1 hd hf hl.has hn rfl (fun ls' hh => kk ls' H locs cells slots hR (hl.st1 hst hh) hq hc hsl)
  · rcases isR_of hv with rfl | ⟨x, rfl⟩
    · exact lv_astoreN C.1 C.2.1 hd hl.has hn rfl (fun ls' hh => kk ls' H locs cells slots hR (hl.st1 hst hh) hq hc hsl)
    · exact lv_astore C.1 C.2.1 hd hl.has hn rfl (fun ls' hh => kk ls' H locs cells slots hR (hl.st1 hst hh) hq hc hsl)
  · rcases isR_of hv with rfl | ⟨x, rfl⟩
    · exact lv_astore_nN C.1 C.2.1 hd hf hl.has hn rfl (fun ls' hh => kk ls' H locs cells slots hR (hl.st1 hst hh) hq hc hsl)
    · exact lv_astore_n C.1 C.2.1 hd hf hl.has hn rfl (fun ls' hh => kk ls' H locs cells slots hR (hl.st1 hst hh) hq hc hsl)
theorem go_stoJ (C : Cx D p R s mm args meth c m) {i : Instr} {k len : Nat} {x : Int64} (hd : decode (mBytes m) pc = .ok (i, len)) (hst : st2 L k (.long x) = some L')
    (hi : (i = .lstore k ∧ len = 2) ∨ (∃ f : Fin 4, i = .lstore_n f ∧ len = 1 ∧ (f : Nat) = k))
    (kk : Go p l e R s mm args below meth c Q D N b m c0 s0 (pc + len) L' S h) : Go p l e R s mm args below meth c Q D N b m c0 s0 pc L (.long x :: S) h := by
  intro ls H locs cells slots hR hl hq hc hsl
  have hn : k + 1 < mMax m := by rw [← hl.2.1]; exact (st2_spec _ _ _ _ hst).1
  rcases hi with ⟨rfl, rfl⟩ | ⟨f, rfl, rfl, hf⟩
  · exact lv_lstore C.1 C.2.1 hd hl.has hn rfl (fun ls' hh => kk ls' H locs cells slots hR (hl.st2 hst hh) hq hc hsl)
  · exact lv_lstore_n C.1 C.2.1 hd hf hl.has hn rfl (fun ls' hh => kk ls' H locs cells slots hR (hl.st2 hst hh) hq hc hsl)
theorem go_ld (C : Cx D p R s mm args meth c m) {i : Instr} {k len : Nat} {v : Value} (hd : decode (mBytes m) pc = .ok (i, len)) (hL : L[k]? = some (some v))
    (hi : (i = .iload k ∧ len = 2 ∧ isI v = true) ∨ (∃ f : Fin 4, i = .iload_n f ∧ len = 1 ∧ (f : Nat) = k ∧ isI v = true) ∨ (i = .lload k ∧ len = 2 ∧ isJ v = true) ∨ (∃ f : Fin 4, i = .lload_n f ∧ len = 1 ∧ (f : Nat) = k ∧ isJ v = true) ∨ (i = .aload k ∧ len = 2 ∧ isR v = true) ∨ (∃ f : Fin 4, i = .aload_n f ∧ len = 1 ∧ (f : Nat) = k ∧ isR v = true))
    (kk : Go p l e R s mm args below meth c Q D N b m c0 s0 (pc + len) L (v :: S) h) : Go p l e R s mm args below meth c Q D N b m c0 s0 pc L S h := by
  intro ls H locs cells slots hR hl hq hc hsl
  have k9 := kk ls H locs cells slots hR hl hq hc hsl
  have hv := hl.2.2.2 k v hL
  rcases hi with ⟨rfl, rfl, h1⟩ | ⟨f, rfl, rfl, hf, h1⟩ | ⟨rfl, rfl, h1⟩ | ⟨f, rfl, rfl, hf, h1⟩ | ⟨rfl, rfl, h1⟩ | ⟨f, rfl, rfl, hf, h1⟩
  · obtain ⟨x, rfl⟩ := isI_of h1
    exact lv_iload C.1 C.2.1 hd hv k9
  · obtain ⟨x, rfl⟩ := isI_of h1
    exact lv_iload_n C.1 C.2.1 hd hf hv k9
  · obtain ⟨x, rfl⟩ := isJ_of h1
    exact lv_lload C.1 C.2.1 hd hv k9
  · obtain ⟨x, rfl⟩ := isJ_of h1
    exact lv_lload_n C.1 C.2.1 hd hf hv k9
  · rcases isR_of h1 with rfl | ⟨x, rfl⟩
    · exact lv_aloadN C.1 C.2.1 hd hv k9
    · exact lv_aload C.1 C.2.1 hd hv k9
  · rcases isR_of h1 with rfl | ⟨x, rfl⟩
    · exact lv_aload_nN C.1 C.2.1 hd hf hv k9
    · exact lv_aload_n C.1 C.2.1 hd hf hv k9
theorem go_iinc (C : Cx D p R s mm args meth c m) {k : Nat} {n : Int} {x : Int32} (hd : decode (mBytes m) pc = .ok (.iinc k n, 3)) (hL : L[k]? = some (some (.int x))) (hst : st1 L k (.int (x + Int32.ofInt n)) = some L')
    (kk : Go p l e R s mm args below meth c Q D N b m c0 s0 (pc + 3) L' S h) : Go p l e R s mm args below meth c Q D N b m c0 s0 pc L S h := by
  intro ls H locs cells slots hR hl hq hc hsl
  have hn : k < mMax m := by rw [← hl.2.1]; exact (st1_spec _ _ _ _ hst).1
  obtain ⟨j, hj⟩ := List.getElem?_of_mem (al_mem (N := N) (b := b).mpr ⟨.int x, hL, rfl⟩)
  exact lv_iinc C.1 C.2.1 hd hl.has hj rfl hn rfl (fun ls' hh => kk ls' H locs cells slots hR (hl.st1 hst hh) hq hc hsl)
end PLAIN
end
section
section SOUND
variable {p : Program} {l : Launch} {e : Env} {R : Room} {s : State} {mm : MethodId} {args : Array Value} {below : List Frame} {meth : Method} {c : Code} {Q : State → Prop} {D : va_G} {N b m c0 s0 pc pc' aux len : Nat} {L L' : AL} {S S' : List Value} {h h' : AH} {i : Instr}
theorem okPc_use (hok : okPc m pc = true) (hcd : cd m pc = some (i, len, aux)) : decode (mBytes m) pc = .ok (i, len) ∧ okLen i len = true ∧ lnk m i aux = true := by
  unfold okPc at hok
  rw [hcd] at hok
  simp only [Bool.and_eq_true, decide_eq_true_eq] at hok
  exact ⟨hok.1.1, hok.1.2, hok.2⟩
theorem stf_len {a ci k : Nat} {v : Value} (hs : stf h a ci k v = some h') : h'.length = h.length ∧ sl h' = sl h := by
  obtain ⟨fs, h1, -, -, -, -, rfl⟩ := stf_spec hs
  exact ⟨List.length_set, sl_set h1 rfl⟩
theorem ast_len {a : Nat} {ty : FieldType} {j : Int32} {v : Value} (hs : ast h a ty j v = some h') : h'.length = h.length ∧ sl h' = sl h := by
  obtain ⟨n, f, h1, -, -, -, rfl⟩ := ast_spec hs
  exact ⟨List.length_set, sl_set h1 rfl⟩
theorem push_len (e : AC) : h.length ≤ (h ++ [e]).length ∧ sl h ≤ sl (h ++ [e]) := by
  rw [sl_push, List.length_append]
  exact ⟨by omega, by omega⟩
set_option maxHeartbeats 4000000 in
theorem stp_mono (hlk : lnk m i aux = true) (hs : stp m i aux pc L S h = some (pc', L', S', h')) : h.length ≤ h'.length ∧ sl h ≤ sl h' := by
  have key : h' = h ∨ (h'.length = h.length ∧ sl h' = sl h) ∨ ∃ x, h' = h ++ [x] := by
    cases i <;> simp only [stp, psh, ld, sto, stoJ, bin, binJ, shJ, br1, br2] at hs <;> (repeat' split at hs) <;> (try (cases hs; done)) <;> (first
      | (simp only [Option.some.injEq, Prod.mk.injEq] at hs; exact Or.inl hs.2.2.2.symm)
      | (simp only [Option.some.injEq, Prod.mk.injEq] at hs; exact Or.inr (Or.inr ⟨_, hs.2.2.2.symm⟩))
      | (obtain ⟨v, hv, h2⟩ := Option.map_eq_some_iff.mp hs
         simp only [Prod.mk.injEq] at h2
         first
         | exact Or.inl h2.2.2.2.symm
         | (obtain ⟨-, -, -, rfl⟩ := h2; exact Or.inr (Or.inl (stf_len hv)))
         | (obtain ⟨-, -, -, rfl⟩ := h2; exact Or.inr (Or.inl (ast_len hv)))))
  rcases key with rfl | ⟨h1, h2⟩ | ⟨x, rfl⟩
  · exact ⟨Nat.le_refl _, Nat.le_refl _⟩
  · exact ⟨by omega, by omega⟩
  · exact push_len x
set_option maxHeartbeats 4000000 in
/-- a step's form: it leaves the heap, or writes one cell, or makes one -/
theorem go_stp (C : Cx D p R s mm args meth c m) (hd : decode (mBytes m) pc = .ok (i, len)) (hle : okLen i len = true) (hlk : lnk m i aux = true) (hs : stp m i aux pc L S h = some (pc', L', S', h')) :
    (h.length ≤ h'.length ∧ sl h ≤ sl h') ∧ (h'.length ≤ R.cells + c0 ∧ sl h' ≤ R.slots + s0 → Go p l e R s mm args below meth c Q D N b m c0 s0 pc' L' S' h' → Go p l e R s mm args below meth c Q D N b m c0 s0 pc L S h) := by
  cases i with
  | aconst_null =>
    simp only [stp, Option.some.injEq, Prod.mk.injEq] at hs
    obtain ⟨rfl, rfl, rfl, rfl⟩ := hs
    obtain rfl : len = 1 := by simpa [okLen] using hle
    exact ⟨⟨Nat.le_refl _, Nat.le_refl _⟩, fun _ kk ls H locs cells slots hR hl hq hc hsl => lv_null C.1 C.2.1 hd (kk ls H locs cells slots hR hl hq hc hsl)⟩
  | iconst n =>
    simp only [stp, Option.some.injEq, Prod.mk.injEq] at hs
    obtain ⟨rfl, rfl, rfl, rfl⟩ := hs
    obtain rfl : len = 1 := by simpa [okLen] using hle
    exact ⟨⟨Nat.le_refl _, Nat.le_refl _⟩, fun _ kk ls H locs cells slots hR hl hq hc hsl => lv_iconst C.1 C.2.1 hd rfl (kk ls H locs cells slots hR hl hq hc hsl)⟩
  | bipush n =>
    simp only [stp, Option.some.injEq, Prod.mk.injEq] at hs
    obtain ⟨rfl, rfl, rfl, rfl⟩ := hs
    obtain rfl : len = 2 := by simpa [okLen] using hle
    exact ⟨⟨Nat.le_refl _, Nat.le_refl _⟩, fun _ kk ls H locs cells slots hR hl hq hc hsl => lv_bipush C.1 C.2.1 hd rfl (kk ls H locs cells slots hR hl hq hc hsl)⟩
  | sipush n =>
    simp only [stp, Option.some.injEq, Prod.mk.injEq] at hs
    obtain ⟨rfl, rfl, rfl, rfl⟩ := hs
    obtain rfl : len = 3 := by simpa [okLen] using hle
    exact ⟨⟨Nat.le_refl _, Nat.le_refl _⟩, fun _ kk ls H locs cells slots hR hl hq hc hsl => lv_sipush C.1 C.2.1 hd rfl (kk ls H locs cells slots hR hl hq hc hsl)⟩
  | lconst n =>
    simp only [stp, Option.some.injEq, Prod.mk.injEq] at hs
    obtain ⟨rfl, rfl, rfl, rfl⟩ := hs
    obtain rfl : len = 1 := by simpa [okLen] using hle
    exact ⟨⟨Nat.le_refl _, Nat.le_refl _⟩, fun _ kk ls H locs cells slots hR hl hq hc hsl => lv_lconst C.1 C.2.1 hd rfl (kk ls H locs cells slots hR hl hq hc hsl)⟩
  | ldc2_w x =>
    simp only [stp] at hs
    obtain ⟨v, hv, h2⟩ := Option.map_eq_some_iff.mp hs
    simp only [Prod.mk.injEq] at h2
    obtain ⟨rfl, rfl, rfl, rfl⟩ := h2
    obtain rfl : len = 3 := by simpa [okLen] using hle
    unfold lnk at hlk
    simp only [Bool.and_eq_true, decide_eq_true_eq] at hlk
    have hw := C.2.2.2.2.1 _ (KL_in hlk.2)
    rw [List.getD_eq_getElem?_getD, hv] at hw
    exact ⟨⟨Nat.le_refl _, Nat.le_refl _⟩, fun _ kk ls H locs cells slots hR hl hq hc hsl => lv_ldc2 C.1 C.2.1 C.2.2.2.1 hw hd (kk ls H locs cells slots hR hl hq hc hsl)⟩
  | iload k =>
    simp only [stp] at hs
    obtain ⟨v, hL, hv, rfl, rfl, rfl, rfl⟩ := ld_spec hs
    obtain rfl : len = 2 := by simpa [okLen] using hle
    exact ⟨⟨Nat.le_refl _, Nat.le_refl _⟩, fun _ kk => go_ld C hd hL (Or.inl ⟨rfl, rfl, hv⟩) kk⟩
  | iload_n k =>
    simp only [stp] at hs
    obtain ⟨v, hL, hv, rfl, rfl, rfl, rfl⟩ := ld_spec hs
    obtain rfl : len = 1 := by simpa [okLen] using hle
    exact ⟨⟨Nat.le_refl _, Nat.le_refl _⟩, fun _ kk => go_ld C hd hL (Or.inr (Or.inl ⟨k, rfl, rfl, rfl, hv⟩)) kk⟩
  | lload k =>
    simp only [stp] at hs
    obtain ⟨v, hL, hv, rfl, rfl, rfl, rfl⟩ := ld_spec hs
    obtain rfl : len = 2 := by simpa [okLen] using hle
    exact ⟨⟨Nat.le_refl _, Nat.le_refl _⟩, fun _ kk => go_ld C hd hL (Or.inr (Or.inr (Or.inl ⟨rfl, rfl, hv⟩))) kk⟩
  | lload_n k =>
    simp only [stp] at hs
    obtain ⟨v, hL, hv, rfl, rfl, rfl, rfl⟩ := ld_spec hs
    obtain rfl : len = 1 := by simpa [okLen] using hle
    exact ⟨⟨Nat.le_refl _, Nat.le_refl _⟩, fun _ kk => go_ld C hd hL (Or.inr (Or.inr (Or.inr (Or.inl ⟨k, rfl, rfl, rfl, hv⟩)))) kk⟩
  | aload k =>
    simp only [stp] at hs
    obtain ⟨v, hL, hv, rfl, rfl, rfl, rfl⟩ := ld_spec hs
    obtain rfl : len = 2 := by simpa [okLen] using hle
    exact ⟨⟨Nat.le_refl _, Nat.le_refl _⟩, fun _ kk => go_ld C hd hL (Or.inr (Or.inr (Or.inr (Or.inr (Or.inl ⟨rfl, rfl, hv⟩))))) kk⟩
  | aload_n k =>
    simp only [stp] at hs
    obtain ⟨v, hL, hv, rfl, rfl, rfl, rfl⟩ := ld_spec hs
    obtain rfl : len = 1 := by simpa [okLen] using hle
    exact ⟨⟨Nat.le_refl _, Nat.le_refl _⟩, fun _ kk => go_ld C hd hL (Or.inr (Or.inr (Or.inr (Or.inr (Or.inr ⟨k, rfl, rfl, rfl, hv⟩))))) kk⟩
  | istore k =>
    simp only [stp] at hs
    obtain ⟨v, rfl, hv, hst, rfl, rfl⟩ := sto_spec hs
    obtain rfl : len = 2 := by simpa [okLen] using hle
    exact ⟨⟨Nat.le_refl _, Nat.le_refl _⟩, fun _ kk => go_sto C hd hst (Or.inl ⟨rfl, rfl, isI_of hv⟩) kk⟩
  | istore_n k =>
    simp only [stp] at hs
    obtain ⟨v, rfl, hv, hst, rfl, rfl⟩ := sto_spec hs
    obtain rfl : len = 1 := by simpa [okLen] using hle
    exact ⟨⟨Nat.le_refl _, Nat.le_refl _⟩, fun _ kk => go_sto C hd hst (Or.inr (Or.inl ⟨k, rfl, rfl, rfl, isI_of hv⟩)) kk⟩
  | astore k =>
    simp only [stp] at hs
    obtain ⟨v, rfl, hv, hst, rfl, rfl⟩ := sto_spec hs
    obtain rfl : len = 2 := by simpa [okLen] using hle
    exact ⟨⟨Nat.le_refl _, Nat.le_refl _⟩, fun _ kk => go_sto C hd hst (Or.inr (Or.inr (Or.inl ⟨rfl, rfl, hv⟩))) kk⟩
  | astore_n k =>
    simp only [stp] at hs
    obtain ⟨v, rfl, hv, hst, rfl, rfl⟩ := sto_spec hs
    obtain rfl : len = 1 := by simpa [okLen] using hle
    exact ⟨⟨Nat.le_refl _, Nat.le_refl _⟩, fun _ kk => go_sto C hd hst (Or.inr (Or.inr (Or.inr ⟨k, rfl, rfl, rfl, hv⟩))) kk⟩
  | lstore k =>
    simp only [stp] at hs
    obtain ⟨x, rfl, hst, rfl, rfl⟩ := stoJ_spec hs
    obtain rfl : len = 2 := by simpa [okLen] using hle
    exact ⟨⟨Nat.le_refl _, Nat.le_refl _⟩, fun _ kk => go_stoJ C hd hst (Or.inl ⟨rfl, rfl⟩) kk⟩
  | lstore_n k =>
    simp only [stp] at hs
    obtain ⟨x, rfl, hst, rfl, rfl⟩ := stoJ_spec hs
    obtain rfl : len = 1 := by simpa [okLen] using hle
    exact ⟨⟨Nat.le_refl _, Nat.le_refl _⟩, fun _ kk => go_stoJ C hd hst (Or.inr ⟨k, rfl, rfl, rfl⟩) kk⟩
  | iinc k n =>
    simp only [stp] at hs
    split at hs
    · rename_i x hL
      obtain ⟨L0, hst, h2⟩ := Option.map_eq_some_iff.mp hs
      simp only [Prod.mk.injEq] at h2
      obtain ⟨rfl, rfl, rfl, rfl⟩ := h2
      obtain rfl : len = 3 := by simpa [okLen] using hle
      exact ⟨⟨Nat.le_refl _, Nat.le_refl _⟩, fun _ kk => go_iinc C hd hL hst kk⟩
    · cases hs
  | iadd =>
    obtain ⟨x, y, S0, rfl, rfl, rfl, rfl, rfl⟩ := bin_spec hs
    obtain rfl : len = 1 := by simpa [okLen] using hle
    exact ⟨⟨Nat.le_refl _, Nat.le_refl _⟩, fun _ kk ls H locs cells slots hR hl hq hc hsl => lv_iadd C.1 C.2.1 hd (kk ls H locs cells slots hR hl hq hc hsl)⟩
  | isub =>
    obtain ⟨x, y, S0, rfl, rfl, rfl, rfl, rfl⟩ := bin_spec hs
    obtain rfl : len = 1 := by simpa [okLen] using hle
    exact ⟨⟨Nat.le_refl _, Nat.le_refl _⟩, fun _ kk ls H locs cells slots hR hl hq hc hsl => lv_isub C.1 C.2.1 hd (kk ls H locs cells slots hR hl hq hc hsl)⟩
  | imul =>
    obtain ⟨x, y, S0, rfl, rfl, rfl, rfl, rfl⟩ := bin_spec hs
    obtain rfl : len = 1 := by simpa [okLen] using hle
    exact ⟨⟨Nat.le_refl _, Nat.le_refl _⟩, fun _ kk ls H locs cells slots hR hl hq hc hsl => lv_imul C.1 C.2.1 hd (kk ls H locs cells slots hR hl hq hc hsl)⟩
  | iand =>
    obtain ⟨x, y, S0, rfl, rfl, rfl, rfl, rfl⟩ := bin_spec hs
    obtain rfl : len = 1 := by simpa [okLen] using hle
    exact ⟨⟨Nat.le_refl _, Nat.le_refl _⟩, fun _ kk ls H locs cells slots hR hl hq hc hsl => lv_iand C.1 C.2.1 hd (kk ls H locs cells slots hR hl hq hc hsl)⟩
  | ior =>
    obtain ⟨x, y, S0, rfl, rfl, rfl, rfl, rfl⟩ := bin_spec hs
    obtain rfl : len = 1 := by simpa [okLen] using hle
    exact ⟨⟨Nat.le_refl _, Nat.le_refl _⟩, fun _ kk ls H locs cells slots hR hl hq hc hsl => lv_ior C.1 C.2.1 hd (kk ls H locs cells slots hR hl hq hc hsl)⟩
  | ixor =>
    obtain ⟨x, y, S0, rfl, rfl, rfl, rfl, rfl⟩ := bin_spec hs
    obtain rfl : len = 1 := by simpa [okLen] using hle
    exact ⟨⟨Nat.le_refl _, Nat.le_refl _⟩, fun _ kk ls H locs cells slots hR hl hq hc hsl => lv_ixor C.1 C.2.1 hd (kk ls H locs cells slots hR hl hq hc hsl)⟩
  | ishl =>
    obtain ⟨x, y, S0, rfl, rfl, rfl, rfl, rfl⟩ := bin_spec hs
    obtain rfl : len = 1 := by simpa [okLen] using hle
    exact ⟨⟨Nat.le_refl _, Nat.le_refl _⟩, fun _ kk ls H locs cells slots hR hl hq hc hsl => lv_ishl C.1 C.2.1 hd (kk ls H locs cells slots hR hl hq hc hsl)⟩
  | ishr =>
    obtain ⟨x, y, S0, rfl, rfl, rfl, rfl, rfl⟩ := bin_spec hs
    obtain rfl : len = 1 := by simpa [okLen] using hle
    exact ⟨⟨Nat.le_refl _, Nat.le_refl _⟩, fun _ kk ls H locs cells slots hR hl hq hc hsl => lv_ishr C.1 C.2.1 hd (kk ls H locs cells slots hR hl hq hc hsl)⟩
  | land =>
    obtain ⟨x, y, S0, rfl, rfl, rfl, rfl, rfl⟩ := binJ_spec hs
    obtain rfl : len = 1 := by simpa [okLen] using hle
    exact ⟨⟨Nat.le_refl _, Nat.le_refl _⟩, fun _ kk ls H locs cells slots hR hl hq hc hsl => lv_land C.1 C.2.1 hd (kk ls H locs cells slots hR hl hq hc hsl)⟩
  | lor =>
    obtain ⟨x, y, S0, rfl, rfl, rfl, rfl, rfl⟩ := binJ_spec hs
    obtain rfl : len = 1 := by simpa [okLen] using hle
    exact ⟨⟨Nat.le_refl _, Nat.le_refl _⟩, fun _ kk ls H locs cells slots hR hl hq hc hsl => lv_lor C.1 C.2.1 hd (kk ls H locs cells slots hR hl hq hc hsl)⟩
  | lshl =>
    obtain ⟨x, y, S0, rfl, rfl, rfl, rfl, rfl⟩ := shJ_spec hs
    obtain rfl : len = 1 := by simpa [okLen] using hle
    exact ⟨⟨Nat.le_refl _, Nat.le_refl _⟩, fun _ kk ls H locs cells slots hR hl hq hc hsl => lv_lshl C.1 C.2.1 hd rfl (kk ls H locs cells slots hR hl hq hc hsl)⟩
  | lshr =>
    obtain ⟨x, y, S0, rfl, rfl, rfl, rfl, rfl⟩ := shJ_spec hs
    obtain rfl : len = 1 := by simpa [okLen] using hle
    exact ⟨⟨Nat.le_refl _, Nat.le_refl _⟩, fun _ kk ls H locs cells slots hR hl hq hc hsl => lv_lshr C.1 C.2.1 hd rfl (kk ls H locs cells slots hR hl hq hc hsl)⟩
  | lushr =>
    obtain ⟨x, y, S0, rfl, rfl, rfl, rfl, rfl⟩ := shJ_spec hs
    obtain rfl : len = 1 := by simpa [okLen] using hle
    exact ⟨⟨Nat.le_refl _, Nat.le_refl _⟩, fun _ kk ls H locs cells slots hR hl hq hc hsl => lv_lushr C.1 C.2.1 hd rfl (kk ls H locs cells slots hR hl hq hc hsl)⟩
  | i2l =>
    simp only [stp] at hs
    split at hs
    · simp only [Option.some.injEq, Prod.mk.injEq] at hs
      obtain ⟨rfl, rfl, rfl, rfl⟩ := hs
      obtain rfl : len = 1 := by simpa [okLen] using hle
      exact ⟨⟨Nat.le_refl _, Nat.le_refl _⟩, fun _ kk ls H locs cells slots hR hl hq hc hsl => lv_i2l C.1 C.2.1 hd rfl (kk ls H locs cells slots hR hl hq hc hsl)⟩
    · cases hs
  | l2i =>
    simp only [stp] at hs
    split at hs
    · simp only [Option.some.injEq, Prod.mk.injEq] at hs
      obtain ⟨rfl, rfl, rfl, rfl⟩ := hs
      obtain rfl : len = 1 := by simpa [okLen] using hle
      exact ⟨⟨Nat.le_refl _, Nat.le_refl _⟩, fun _ kk ls H locs cells slots hR hl hq hc hsl => lv_l2i C.1 C.2.1 hd rfl (kk ls H locs cells slots hR hl hq hc hsl)⟩
    · cases hs
  | lcmp =>
    simp only [stp] at hs
    split at hs
    · simp only [Option.some.injEq, Prod.mk.injEq] at hs
      obtain ⟨rfl, rfl, rfl, rfl⟩ := hs
      obtain rfl : len = 1 := by simpa [okLen] using hle
      exact ⟨⟨Nat.le_refl _, Nat.le_refl _⟩, fun _ kk ls H locs cells slots hR hl hq hc hsl => W.lcmp C.1 C.2.1 hd (kk ls H locs cells slots hR hl hq hc hsl)⟩
    · cases hs
  | dup =>
    simp only [stp] at hs
    split at hs
    · split at hs
      · rename_i v S0 hcat
        simp only [Option.some.injEq, Prod.mk.injEq] at hs
        obtain ⟨rfl, rfl, rfl, rfl⟩ := hs
        obtain rfl : len = 1 := by simpa [okLen] using hle
        exact ⟨⟨Nat.le_refl _, Nat.le_refl _⟩, fun _ kk ls H locs cells slots hR hl hq hc hsl => lv_dup C.1 C.2.1 hd (by rw [cv_cat]; exact hcat) (kk ls H locs cells slots hR hl hq hc hsl)⟩
      · cases hs
    · cases hs
  | dup2 =>
    simp only [stp] at hs
    split at hs
    · split at hs
      · rename_i v w S0 hcat
        simp only [Option.some.injEq, Prod.mk.injEq] at hs
        obtain ⟨rfl, rfl, rfl, rfl⟩ := hs
        obtain rfl : len = 1 := by simpa [okLen] using hle
        exact ⟨⟨Nat.le_refl _, Nat.le_refl _⟩, fun _ kk ls H locs cells slots hR hl hq hc hsl => lv_dup2_11 C.1 C.2.1 hd (by rw [cv_cat]; exact hcat.1) (by rw [cv_cat]; exact hcat.2) (kk ls H locs cells slots hR hl hq hc hsl)⟩
      · cases hs
    · cases hs
  | ifCond cn off =>
    obtain rfl : len = 3 := by simpa [okLen] using hle
    have e : h' = h := by
      simp only [stp, br1] at hs
      split at hs
      · obtain ⟨t, ht, h2⟩ := Option.map_eq_some_iff.mp hs
        simp only [Prod.mk.injEq] at h2
        exact h2.2.2.2.symm
      · cases hs
    exact ⟨by rw [e]; exact ⟨Nat.le_refl _, Nat.le_refl _⟩, fun _ kk => go_if C hd hs kk⟩
  | if_icmp cn off =>
    obtain rfl : len = 3 := by simpa [okLen] using hle
    have e : h' = h := by
      simp only [stp, br2] at hs
      split at hs
      · obtain ⟨t, ht, h2⟩ := Option.map_eq_some_iff.mp hs
        simp only [Prod.mk.injEq] at h2
        exact h2.2.2.2.symm
      · cases hs
    exact ⟨by rw [e]; exact ⟨Nat.le_refl _, Nat.le_refl _⟩, fun _ kk => go_icmp C hd hs kk⟩
  | ifnull off =>
    obtain rfl : len = 3 := by simpa [okLen] using hle
    simp only [stp] at hs
    split at hs
    · obtain ⟨t, ht, h2⟩ := Option.map_eq_some_iff.mp hs
      simp only [Prod.mk.injEq] at h2
      obtain ⟨rfl, rfl, rfl, rfl⟩ := h2
      exact ⟨⟨Nat.le_refl _, Nat.le_refl _⟩, fun _ kk ls H locs cells slots hR hl hq hc hsl => lv_ifnullN C.1 C.2.1 hd (jmp_spec ht) (kk ls H locs cells slots hR hl hq hc hsl)⟩
    · simp only [Option.some.injEq, Prod.mk.injEq] at hs
      obtain ⟨rfl, rfl, rfl, rfl⟩ := hs
      exact ⟨⟨Nat.le_refl _, Nat.le_refl _⟩, fun _ kk ls H locs cells slots hR hl hq hc hsl => lv_ifnull C.1 C.2.1 hd (kk ls H locs cells slots hR hl hq hc hsl)⟩
    · cases hs
  | ifnonnull off =>
    obtain rfl : len = 3 := by simpa [okLen] using hle
    simp only [stp] at hs
    split at hs
    · obtain ⟨t, ht, h2⟩ := Option.map_eq_some_iff.mp hs
      simp only [Prod.mk.injEq] at h2
      obtain ⟨rfl, rfl, rfl, rfl⟩ := h2
      exact ⟨⟨Nat.le_refl _, Nat.le_refl _⟩, fun _ kk ls H locs cells slots hR hl hq hc hsl => lv_ifnonnull C.1 C.2.1 hd (jmp_spec ht) (kk ls H locs cells slots hR hl hq hc hsl)⟩
    · simp only [Option.some.injEq, Prod.mk.injEq] at hs
      obtain ⟨rfl, rfl, rfl, rfl⟩ := hs
      exact ⟨⟨Nat.le_refl _, Nat.le_refl _⟩, fun _ kk ls H locs cells slots hR hl hq hc hsl => lv_ifnonnullN C.1 C.2.1 hd (kk ls H locs cells slots hR hl hq hc hsl)⟩
    · cases hs
  | goto off =>
    obtain rfl : len = 3 := by simpa [okLen] using hle
    simp only [stp] at hs
    obtain ⟨t, ht, h2⟩ := Option.map_eq_some_iff.mp hs
    simp only [Prod.mk.injEq] at h2
    obtain ⟨rfl, rfl, rfl, rfl⟩ := h2
    exact ⟨⟨Nat.le_refl _, Nat.le_refl _⟩, fun _ kk ls H locs cells slots hR hl hq hc hsl => lv_goto C.1 C.2.1 hd (jmp_spec ht) (kk ls H locs cells slots hR hl hq hc hsl)⟩
  | tableswitch d lo hi offs =>
    have e : h' = h := by
      simp only [stp] at hs
      split at hs
      · split at hs
        · obtain ⟨t, ht, h2⟩ := Option.map_eq_some_iff.mp hs
          simp only [Prod.mk.injEq] at h2
          exact h2.2.2.2.symm
        · split at hs
          · obtain ⟨t, ht, h2⟩ := Option.map_eq_some_iff.mp hs
            simp only [Prod.mk.injEq] at h2
            exact h2.2.2.2.symm
          · cases hs
      · cases hs
    exact ⟨by rw [e]; exact ⟨Nat.le_refl _, Nat.le_refl _⟩, fun _ kk => go_sw C hd hs kk⟩
  | getfield x =>
    obtain rfl : len = 3 := by simpa [okLen] using hle
    simp only [stp] at hs
    split at hs
    · obtain ⟨v, hv, h2⟩ := Option.map_eq_some_iff.mp hs
      simp only [Prod.mk.injEq] at h2
      obtain ⟨rfl, rfl, rfl, rfl⟩ := h2
      exact ⟨⟨Nat.le_refl _, Nat.le_refl _⟩, fun _ kk => go_getfield C hd hlk hv kk⟩
    · cases hs
  | putfield x =>
    obtain rfl : len = 3 := by simpa [okLen] using hle
    simp only [stp] at hs
    split at hs
    · obtain ⟨v, hv, h2⟩ := Option.map_eq_some_iff.mp hs
      simp only [Prod.mk.injEq] at h2
      obtain ⟨rfl, rfl, rfl, rfl⟩ := h2
      obtain ⟨z1, z2⟩ := stf_len hv
      exact ⟨⟨by omega, by omega⟩, fun _ kk => go_putfield C hd hlk hv kk⟩
    · cases hs
  | iaload =>
    obtain rfl : len = 1 := by simpa [okLen] using hle
    simp only [stp] at hs
    split at hs
    · obtain ⟨v, hv, h2⟩ := Option.map_eq_some_iff.mp hs
      simp only [Prod.mk.injEq] at h2
      obtain ⟨rfl, rfl, rfl, rfl⟩ := h2
      exact ⟨⟨Nat.le_refl _, Nat.le_refl _⟩, fun _ kk => go_ald C hd (Or.inl ⟨rfl, rfl⟩) hv kk⟩
    · cases hs
  | baload =>
    obtain rfl : len = 1 := by simpa [okLen] using hle
    simp only [stp] at hs
    split at hs
    · obtain ⟨v, hv, h2⟩ := Option.map_eq_some_iff.mp hs
      simp only [Prod.mk.injEq] at h2
      obtain ⟨rfl, rfl, rfl, rfl⟩ := h2
      exact ⟨⟨Nat.le_refl _, Nat.le_refl _⟩, fun _ kk => go_ald C hd (Or.inr (Or.inl ⟨rfl, rfl⟩)) hv kk⟩
    · cases hs
  | laload =>
    obtain rfl : len = 1 := by simpa [okLen] using hle
    simp only [stp] at hs
    split at hs
    · obtain ⟨v, hv, h2⟩ := Option.map_eq_some_iff.mp hs
      simp only [Prod.mk.injEq] at h2
      obtain ⟨rfl, rfl, rfl, rfl⟩ := h2
      exact ⟨⟨Nat.le_refl _, Nat.le_refl _⟩, fun _ kk => go_ald C hd (Or.inr (Or.inr (Or.inl ⟨rfl, rfl⟩))) hv kk⟩
    · cases hs
  | aaload =>
    obtain rfl : len = 1 := by simpa [okLen] using hle
    simp only [stp] at hs
    split at hs
    · obtain ⟨v, hv, h2⟩ := Option.map_eq_some_iff.mp hs
      simp only [Prod.mk.injEq] at h2
      obtain ⟨rfl, rfl, rfl, rfl⟩ := h2
      exact ⟨⟨Nat.le_refl _, Nat.le_refl _⟩, fun _ kk => go_ald C hd (Or.inr (Or.inr (Or.inr ⟨rfl, rfl⟩))) hv kk⟩
    · cases hs
  | iastore =>
    obtain rfl : len = 1 := by simpa [okLen] using hle
    simp only [stp] at hs
    split at hs
    · obtain ⟨v, hv, h2⟩ := Option.map_eq_some_iff.mp hs
      simp only [Prod.mk.injEq] at h2
      obtain ⟨rfl, rfl, rfl, rfl⟩ := h2
      obtain ⟨z1, z2⟩ := ast_len hv
      exact ⟨⟨by omega, by omega⟩, fun _ kk => go_ast C hd (Or.inl ⟨rfl, rfl, _, rfl⟩) hv kk⟩
    · cases hs
  | bastore =>
    obtain rfl : len = 1 := by simpa [okLen] using hle
    simp only [stp] at hs
    split at hs
    · obtain ⟨v, hv, h2⟩ := Option.map_eq_some_iff.mp hs
      simp only [Prod.mk.injEq] at h2
      obtain ⟨rfl, rfl, rfl, rfl⟩ := h2
      obtain ⟨z1, z2⟩ := ast_len hv
      exact ⟨⟨by omega, by omega⟩, fun _ kk => go_ast C hd (Or.inr (Or.inl ⟨rfl, rfl, _, rfl⟩)) hv kk⟩
    · cases hs
  | lastore =>
    obtain rfl : len = 1 := by simpa [okLen] using hle
    simp only [stp] at hs
    split at hs
    · obtain ⟨v, hv, h2⟩ := Option.map_eq_some_iff.mp hs
      simp only [Prod.mk.injEq] at h2
      obtain ⟨rfl, rfl, rfl, rfl⟩ := h2
      obtain ⟨z1, z2⟩ := ast_len hv
      exact ⟨⟨by omega, by omega⟩, fun _ kk => go_ast C hd (Or.inr (Or.inr (Or.inl ⟨rfl, rfl, _, rfl⟩))) hv kk⟩
    · cases hs
  | aastore =>
    obtain rfl : len = 1 := by simpa [okLen] using hle
    simp only [stp] at hs
    split at hs
    · split at hs
      · rename_i hO
        obtain ⟨v, hv, h2⟩ := Option.map_eq_some_iff.mp hs
        simp only [Prod.mk.injEq] at h2
        obtain ⟨rfl, rfl, rfl, rfl⟩ := h2
        obtain ⟨z1, z2⟩ := ast_len hv
        exact ⟨⟨by omega, by omega⟩, fun _ kk => go_ast C hd (Or.inr (Or.inr (Or.inr ⟨rfl, rfl, _, rfl, hO⟩))) hv kk⟩
      · cases hs
    · cases hs
  | arraylength =>
    obtain rfl : len = 1 := by simpa [okLen] using hle
    simp only [stp] at hs
    split at hs
    · obtain ⟨v, hv, h2⟩ := Option.map_eq_some_iff.mp hs
      simp only [Prod.mk.injEq] at h2
      obtain ⟨rfl, rfl, rfl, rfl⟩ := h2
      exact ⟨⟨Nat.le_refl _, Nat.le_refl _⟩, fun _ kk => go_len C hd hv kk⟩
    · cases hs
  | newarray t =>
    obtain rfl : len = 2 := by simpa [okLen] using hle
    simp only [stp] at hs
    split at hs
    · split at hs
      · rename_i hn
        simp only [Option.some.injEq, Prod.mk.injEq] at hs
        obtain ⟨rfl, rfl, rfl, rfl⟩ := hs
        exact ⟨push_len _, fun hcap kk => go_newarray C hd hlk hn.1 hn.2 hcap kk⟩
      · cases hs
    · cases hs
  | anewarray x =>
    obtain rfl : len = 3 := by simpa [okLen] using hle
    simp only [stp] at hs
    split at hs
    · split at hs
      · rename_i hn
        simp only [Option.some.injEq, Prod.mk.injEq] at hs
        obtain ⟨rfl, rfl, rfl, rfl⟩ := hs
        exact ⟨push_len _, fun hcap kk => go_anewarray C hd hlk hn.1 hn.2.1 hcap kk⟩
      · cases hs
    · cases hs
  | new x =>
    obtain rfl : len = 3 := by simpa [okLen] using hle
    simp only [stp, Option.some.injEq, Prod.mk.injEq] at hs
    obtain ⟨rfl, rfl, rfl, rfl⟩ := hs
    exact ⟨push_len _, fun hcap kk => go_new C hd hlk hcap kk⟩
  | invokespecial x =>
    obtain rfl : len = 3 := by simpa [okLen] using hle
    simp only [stp] at hs
    split at hs
    · split at hs
      · rename_i a ha
        simp only [Option.some.injEq, Prod.mk.injEq] at hs
        obtain ⟨rfl, rfl, rfl, rfl⟩ := hs
        refine ⟨⟨Nat.le_refl _, Nat.le_refl _⟩, fun _ kk ls H locs cells slots hR hl hq hc hsl => ?_⟩
        simp only [lnk] at hlk
        rw [if_pos ha] at hlk
        simp only [Bool.and_eq_true, decide_eq_true_eq] at hlk
        obtain ⟨⟨hlk, hf1⟩, hf2⟩ := hlk
        obtain ⟨q, hq2, h2⟩ := List.any_eq_true.mp hlk
        simp only [Bool.and_eq_true, beq_iff_eq] at h2
        have hw := C.2.2.2.2.1 _ (gw_of (List.all_eq_true.mp OLt_ok q hq2))
        rw [h2.1, h2.2] at hw
        obtain ⟨C1, C2, C3, C4, C5, C6, C7, C8, C9, C10, C11, C12⟩ := C
        exact W.objInit C1 C2 C4 hw (C5 _ wOI_in) (C5 _ wOC_in) rfl (by rw [C3]; exact hl.1) rfl hd (by omega) (by show 2 * 0 + 0 + 12 ≤ R.locals; omega) (kk ls H locs cells slots hR hl hq hc hsl)
      · cases hs
    · cases hs
  | _ => exact absurd hs (by simp [stp])
end SOUND
end
section
/-! ===== Calls, ends; every run of the small machine is one of the JVM ===== -/
theorem KU.warm {D : va_G} {s U : State} (hW : s.WarmedH U.vm) (h : KU D s) : KU D U := by
  refine ⟨va_K.moved hW.alike h.1, fun w hw => ?_, va_AO.moved hW.alike h.2.2⟩
  have h9 := h.2.1 w hw
  obtain ⟨q, hq, rfl⟩ := List.mem_map.mp hw
  exact va_Nw.warmF hW h9
theorem KU.same {D : va_G} {s U : State} (hvm : s.vm = U.vm) (h : KU D s) : KU D U := by
  have ha : s.vm.Alike U.vm := by rw [hvm]; exact Vm.Alike.refl _
  refine ⟨va_K.moved ha h.1, fun w hw => ?_, va_AO.moved ha h.2.2⟩
  have h9 := h.2.1 w hw
  obtain ⟨q, hq, rfl⟩ := List.mem_map.mp hw
  exact va_Nw.same rfl hvm h9
/-- what a method's start and end are -/
def PcA (D : va_G) (N b : Nat) (as : List Value) (h : AH) : Array Value → State → Prop := fun v U => v = (as.map (cv N b)).toArray ∧ Rel D U N b h U.heap ∧ KU D U
def QcA (D : va_G) (N b : Nat) (r : Option Value) (h : AH) : Array Value → State → Outcome → State → Prop := fun _ _ o t => o = .returned (r.map (cv N b)) ∧ Rel D t N b h t.heap
def rmA (m : Nat) (h h' : AH) : Room := { frames := mFr m, cells := h'.length - h.length, slots := sl h' - sl h, locals := mLo m }
/-- the contract of method m at this run -/
def MetA (l : Launch) (D : va_G) (N b m : Nat) (as : List Value) (h : AH) (r : Option Value) (h' : AH) : Prop :=
  Met l (mY m) (.code (mY m) (mBytes m) (mMax m) (mRet m) :: gw) (rmA m h h') (PcA D N b as h) (QcA D N b r h') (h'.length - h.length) (sl h' - sl h) (fun q => N ≤ q)
theorem PcA.blind {D : va_G} {N b : Nat} {as : List Value} {h : AH} : FrameBlind (PcA D N b as h) := by
  intro a U g mk q
  obtain ⟨q1, q2, q3⟩ := q
  exact ⟨q1, q2.moved (u := U) (U := U.calling g mk a) (Vm.Alike.refl U.vm), KU.same (s := U) (U := U.calling g mk a) rfl q3⟩
section CALLS
variable {p : Program} {l : Launch} {e : Env} {R : Room} {s : State} {mm : MethodId} {args : Array Value} {below : List Frame} {meth : Method} {c : Code} {Q : State → Prop} {D : va_G} {N b m c0 s0 pc pc' aux len : Nat} {L L' : AL} {S S' : List Value} {h h' : AH} {i : Instr}
/-- behind a call -/
theorem call_end {H : Heap} {locs : List Loc} {cells slots mc ms : Nat} {ls : Array Slot} {st0 rest : List Value} {Qa : State → Outcome → State → Prop} {free : Addr → Prop} (hr : va_Run p l e R s mm args below meth c H locs cells slots mc ms (F0 mm pc ls st0) rest Qa free)
    (kk : ∀ (v : Option Value) (st₀ t : State) (H1 : Heap) (locs1 : List Loc), t.heap = H1 → s.vm.Alike t.vm → Qa st₀ (.returned v) t → (∀ q ∈ locs1, q ∈ locs ∨ free q.base) → W p l e R s mm args below meth c H1 locs1 (cells + mc) (slots + ms) Q (F0 mm (pc + 3) ls (v.toList ++ rest))) : W p l e R s mm args below meth c H locs cells slots Q (F0 mm pc ls st0) := by
  intro T hT X
  obtain ⟨v, st₀, t, T', L, h0, X', hL, e1, e2, hq, st⟩ := hr T hT X
  obtain ⟨t2, a1, b1⟩ := kk v st₀ t T'.heap (locs ++ L) e1.symm (by rw [← e2]; exact X'.warmed.alike) hq (fun q h9 => by
    rcases List.mem_append.mp h9 with h9 | h9
    · exact Or.inl h9
    · exact Or.inr (hL q h9)) T' rfl X'
  exact ⟨t2, st t2 a1, b1⟩
theorem okM_use {m : Nat} (hm : m < 130) : ∃ pc ini kd wd sel, MPt[m]? = some (pc, ini, kd, wd, sel) ∧ mKind m = kd ∧ Cond.initialized (mY m).cls ∈ gw ∧ plainName (mY m).cls = true ∧ ((mY m).cls ≠ "java/lang/invoke/MethodHandle" ∧ (mY m).cls ≠ "java/lang/invoke/VarHandle") ∧ (parseMethodDescriptor (mY m).desc).map (fun d => d.parameters.length) = some (mArgs m) ∧ (kd = 0 → Cond.static (mY m) ∈ gw) ∧ (kd = 1 → Cond.instanceMethod (mY m) ∈ gw ∧ (mY m).name = "<init>" ∧ mRet m = none) ∧ (kd = 2 → Cond.instanceMethod (mY m) ∈ gw ∧ Cond.selects (mY m).cls (mY m) (mY m) ∈ gw) := by
  have h := okM_all m hm
  unfold okM at h
  split at h
  · cases h
  · rename_i pc ini kd wd sel hq
    simp only [Bool.and_eq_true, decide_eq_true_eq] at h
    obtain ⟨⟨⟨⟨h2, h3⟩, h4⟩, h5⟩, h6⟩ := h
    refine ⟨pc, ini, kd, wd, sel, hq, by simp [mKind, List.getD_eq_getElem?_getD, hq], gw_of h2, h3, h4, h5, fun h9 => ?_, fun h9 => ?_, fun h9 => ?_⟩
    · subst h9
      exact gw_of h6
    · subst h9
      simp only [Bool.and_eq_true, decide_eq_true_eq] at h6
      exact ⟨gw_of h6.1.1, h6.1.2, h6.2⟩
    · subst h9
      simp only [Bool.and_eq_true] at h6
      exact ⟨gw_of h6.1, gw_of h6.2⟩
theorem good_of {m : Nat} (hm : m < 130) : GoodIn gw (Cond.code (mY m) (mBytes m) (mMax m) (mRet m) :: gw) := by
  intro w hw
  rcases List.mem_cons.mp hw with rfl | hw
  · exact gw_good _ (mc_all m hm)
  · exact gw_good w hw
theorem isCall_spec {S as rest : List Value} {cc : Nat} (hk : isCall i aux S h = some (cc, as, rest)) : cc = aux ∧ (rest.map fun v => v.category).sum ≤ 8 ∧ (len0 as).length ≤ mMax aux ∧
    ((∃ x, i = .invokevirtual x ∧ ∃ a As, as = .ref a :: As ∧ As.length = mArgs aux ∧ S = As.reverse ++ .ref a :: rest ∧ isO h a (mCls aux) = true) ∨
     (∃ x, i = .invokespecial x ∧ aux ≠ 999 ∧ ∃ a As, as = .ref a :: As ∧ As.length = mArgs aux ∧ S = As.reverse ++ .ref a :: rest) ∨
     (∃ x, i = .invokestatic x ∧ as.length = mArgs aux ∧ S = as.reverse ++ rest)) := by
  have key : ∀ {a : Value} {rest : List Value}, S.drop (mArgs aux) = a :: rest → ((S.take (mArgs aux)).reverse).length = mArgs aux ∧ S = ((S.take (mArgs aux)).reverse).reverse ++ a :: rest := by
    intro a rest hd
    have hl : mArgs aux < S.length := by
      rcases Nat.lt_or_ge (mArgs aux) S.length with h9 | h9
      · exact h9
      · rw [List.drop_eq_nil_of_le h9] at hd; cases hd
    refine ⟨by rw [List.length_reverse, List.length_take]; omega, ?_⟩
    rw [List.reverse_reverse, ← hd, List.take_append_drop]
  cases i with
  | invokevirtual x =>
    simp only [isCall] at hk
    split at hk
    · rename_i a rest' hd
      split at hk
      · rename_i hc
        simp only [Option.some.injEq, Prod.mk.injEq] at hk
        obtain ⟨rfl, rfl, rfl⟩ := hk
        obtain ⟨k1, k2⟩ := key hd
        exact ⟨rfl, hc.2.1, hc.2.2, Or.inl ⟨x, rfl, a, _, rfl, k1, k2, hc.1⟩⟩
      · cases hk
    · cases hk
  | invokespecial x =>
    simp only [isCall] at hk
    split at hk
    · cases hk
    · rename_i h999
      split at hk
      · rename_i a rest' hd
        split at hk
        · rename_i hc
          simp only [Option.some.injEq, Prod.mk.injEq] at hk
          obtain ⟨rfl, rfl, rfl⟩ := hk
          obtain ⟨k1, k2⟩ := key hd
          exact ⟨rfl, hc.1, hc.2, Or.inr (Or.inl ⟨x, rfl, h999, a, _, rfl, k1, k2⟩)⟩
        · cases hk
      · cases hk
  | invokestatic x =>
    simp only [isCall] at hk
    split at hk
    · rename_i hc
      simp only [Option.some.injEq, Prod.mk.injEq] at hk
      obtain ⟨rfl, rfl, rfl⟩ := hk
      refine ⟨rfl, hc.2.1, hc.2.2, Or.inr (Or.inr ⟨x, rfl, by rw [List.length_reverse, List.length_take]; omega, ?_⟩)⟩
      rw [List.reverse_reverse, List.take_append_drop]
    · cases hk
  | _ => exact absurd hk (by simp [isCall])
set_option maxHeartbeats 2000000 in
theorem go_call (C : Cx D p R s mm args meth c m) (hd : decode (mBytes m) pc = .ok (i, len)) (hle : okLen i len = true) (hlk : lnk m i aux = true) {cc : Nat} {as rest : List Value} {r : Option Value} {h1 : AH} (hk : isCall i aux S h = some (cc, as, rest)) (hM : MetA l D N b cc as h r h1) (hmono : h.length ≤ h1.length ∧ sl h ≤ sl h1) (hcap : h1.length ≤ R.cells + c0 ∧ sl h1 ≤ R.slots + s0)
    (kk : Go p l e R s mm args below meth c Q D N b m c0 s0 (pc + 3) L (r.toList ++ rest) h1) : Go p l e R s mm args below meth c Q D N b m c0 s0 pc L S h := by
  obtain ⟨rfl, hrest, hlen, hform⟩ := isCall_spec hk
  intro ls H locs cells slots hR hl hq hc hsl
  obtain ⟨C1, C2, C3, C4, C5, C6, C7, C8, C9, C10, C11, C12⟩ := C
  have hroom : ∀ {x : Nat}, roomOk m cc = true → mFr cc + 1 ≤ R.frames ∧ 8 + (mMax cc + 11) + mLo cc ≤ R.locals := by
    intro x h9
    unfold roomOk at h9
    simp only [Bool.and_eq_true, decide_eq_true_eq] at h9
    omega
  have hrm : 2 * (F0 mm pc ls (S.map (cv N b))).monitorRoom + (((rest.map (cv N b))).map fun v => v.category).sum ≤ 8 := by
    rw [cv_cats]
    show 2 * 0 + _ ≤ 8
    omega
  have hmc : cells + (h1.length - h.length) ≤ R.cells ∧ slots + (sl h1 - sl h) ≤ R.slots := by omega
  have hpre : ∀ U : State, U.heap = H → s.WarmedH U.vm → PcA D N b as h (as.map (cv N b)).toArray U := fun U hU hW => ⟨rfl, by rw [hU]; exact hR.moved hW.alike, C6.warm hW⟩
  have fin2 : ∀ (v : Option Value) (st₀ t : State) (H1 : Heap) (locs1 : List Loc), t.heap = H1 → s.vm.Alike t.vm → QcA D N b r h1 (as.map (cv N b)).toArray st₀ (.returned v) t → (∀ q ∈ locs1, q ∈ locs ∨ N ≤ q.base) → W p l e R s mm args below meth c H1 locs1 (cells + (h1.length - h.length)) (slots + (sl h1 - sl h)) Q (F0 mm (pc + 3) ls (v.toList ++ rest.map (cv N b))) := by
    intro v st₀ t H1 locs1 ht hvm hQ hlocs
    obtain ⟨hv, hR1⟩ := hQ
    rw [ht] at hR1
    have hv' : v = r.map (cv N b) := by cases hv; rfl
    have := kk ls H1 locs1 (cells + (h1.length - h.length)) (slots + (sl h1 - sl h)) (hR1.moved hvm.symm) hl (fun q h9 => (hlocs q h9).elim (hq q) id) (by omega) (by omega)
    rw [List.map_append] at this
    rw [hv']
    have e9 : (r.toList).map (cv N b) = (r.map (cv N b)).toList := by cases r <;> rfl
    rw [e9] at this
    exact this
  rcases hform with ⟨x, rfl, a, As, rfl, hAl, hS, hO⟩ | ⟨x, rfl, h999, a, As, rfl, hAl, hS⟩ | ⟨x, rfl, hAl, hS⟩
  · obtain rfl : len = 3 := by simpa [okLen] using hle
    simp only [lnk, Bool.and_eq_true, decide_eq_true_eq] at hlk
    obtain ⟨⟨⟨hm, hml⟩, hkd⟩, hro⟩ := hlk
    obtain ⟨_, _, kd, _, _, -, hkd2, wi, -, wy, wd, -, -, w2⟩ := okM_use hm
    obtain ⟨w21, w22⟩ := w2 (by omega)
    have hlink := C5 _ (ML_in hml)
    obtain ⟨fs, hO2⟩ := isO_spec hO
    obtain ⟨r0, hr0, -, cellV, k1, k2, k3, -⟩ : obAt D N b (am N b a) (mCls cc) fs H := hR.at hO2
    have hKc := C6.1.1 _ _ hr0
    have hcN := (cl_ok _ _ hr0).2.2.2.2.2.2
    have hcw : CallW R s args (cName (mCls m)) (mY cc).cls x (mY cc) (mBytes cc) (mMax cc) (mRet cc) (Cond.code (mY cc) (mBytes cc) (mMax cc) (mRet cc) :: gw) (rmA cc h h1) (h1.length - h.length) (sl h1 - sl h) (mArgs cc) :=
      ⟨callB_of (ws' := gw) (mArgs cc) C5 (good_of hm) rfl rfl rfl (C5 _ wi) hlink ⟨wy.1, wy.2, wd⟩ (hroom (x := 0) hro), C5 _ w21, C5 _ w22⟩
    exact call_end (va_runV (cc := mBytes m) (nL := mMax m) (Ts := gw) (own := cName (mCls m)) (C := (mY cc).cls) (As := As.map (cv N b)) (rest := rest.map (cv N b)) (b := am N b a) ⟨C1, C2, C3, C4, C5⟩ hM hcw ⟨PcA.blind, ⟨cellV, k1, by rw [k3]; rfl, by rw [k2, show (mY cc).cls = cName (mCls cc) from rfl, hcN]; exact hKc.2.1⟩, hpre⟩ rfl (by rw [List.length_map]; exact hAl) hl.1 (by rw [hS]; simp [cv]) hrm hd hmc) fin2
  · obtain rfl : len = 3 := by simpa [okLen] using hle
    simp only [lnk] at hlk
    rw [if_neg h999] at hlk
    simp only [Bool.and_eq_true, decide_eq_true_eq] at hlk
    obtain ⟨⟨⟨hm, hml⟩, hkd⟩, hro⟩ := hlk
    obtain ⟨_, _, kd, _, _, -, hkd2, wi, -, wy, wd, -, w1, -⟩ := okM_use hm
    obtain ⟨w11, w12, w13⟩ := w1 (by omega)
    have hlink := C5 _ (ML_in hml)
    have hcb : CallB R s args (cName (mCls m)) x (mY cc) (mBytes cc) (mMax cc) none (Cond.code (mY cc) (mBytes cc) (mMax cc) (mRet cc) :: gw) (rmA cc h h1) (h1.length - h.length) (sl h1 - sl h) (mArgs cc) := by
      have := callB_of (R := R) (ws' := gw) (mArgs cc) C5 (good_of hm) rfl (rfl : (rmA cc h h1).cells = _) (rfl : (rmA cc h h1).slots = _) (C5 _ wi) hlink ⟨wy.1, wy.2, wd⟩ (hroom (x := 0) hro)
      rw [w13] at this ⊢
      exact this
    exact call_end (va_runI (cc := mBytes m) (nL := mMax m) (Ts := gw) (own := cName (mCls m)) (As := As.map (cv N b)) (rest := rest.map (cv N b)) (b := am N b a) ⟨C1, C2, C3, C4, C5⟩ hM ⟨hcb, w12, C5 _ w11⟩ ⟨PcA.blind, hpre⟩ rfl (by rw [List.length_map]; exact hAl) hl.1 (by rw [hS]; simp [cv]) hrm hd hmc) fin2
  · obtain rfl : len = 3 := by simpa [okLen] using hle
    simp only [lnk, Bool.and_eq_true, decide_eq_true_eq] at hlk
    obtain ⟨⟨⟨hm, hml⟩, hkd⟩, hro⟩ := hlk
    obtain ⟨_, _, kd, _, _, -, hkd2, wi, -, wy, wd, w0, -, -⟩ := okM_use hm
    have w01 := w0 (by omega)
    have hlink := C5 _ (ML_in hml)
    have hcb := callB_of (R := R) (ws' := gw) (mArgs cc) C5 (good_of hm) rfl (rfl : (rmA cc h h1).cells = _) (rfl : (rmA cc h h1).slots = _) (C5 _ wi) hlink ⟨wy.1, wy.2, wd⟩ (hroom (x := 0) hro)
    exact call_end (va_runS (cc := mBytes m) (nL := mMax m) (Ts := gw) (own := cName (mCls m)) (As := as.map (cv N b)) (rest := rest.map (cv N b)) ⟨C1, C2, C3, C4, C5⟩ hM ⟨hcb, C5 _ w01⟩ ⟨PcA.blind, hpre⟩ rfl (by rw [List.length_map]; exact hAl) hl.1 (by rw [hS]; simp) hrm hd hmc) fin2
end CALLS
end
section
section EXEC
variable {p : Program} {l : Launch} {e : Env} {R : Room} {s : State} {mm : MethodId} {args : Array Value} {below : List Frame} {meth : Method} {c : Code} {Q : State → Prop} {D : va_G} {N b m c0 s0 pc pc' aux len : Nat} {L L' : AL} {S S' : List Value} {h h' : AH} {i : Instr}
theorem go_ret (C : Cx D p R s mm args meth c m) (hd : decode (mBytes m) pc = .ok (i, len)) (hle : okLen i len = true) {r : Option Value} (hr : isRet m i S = some r) : Go p l e R s mm args below meth c (MQ below (QcA D N b r h) args s (h.length - c0) (sl h - s0) (fun q => N ≤ q)) D N b m c0 s0 pc L S h := by
  intro ls H locs cells slots hR hl hq hc hsl
  have e1 : h.length - c0 = cells := by omega
  have e2 : sl h - s0 = slots := by omega
  rw [e1, e2]
  obtain ⟨C1, C2, C3, C4, C5, C6, C7, C8, C9, C10, C11, C12⟩ := C
  cases i with
  | return_ =>
    obtain rfl : len = 1 := by simpa [okLen] using hle
    simp only [isRet] at hr
    split at hr
    · split at hr
      · rename_i hn
        cases hr
        exact W.vret C1 C2 (by rw [C8]; exact hn) (fun t ht hW => ⟨rfl, by rw [ht]; exact hR.moved hW.alike⟩) hq hd C9
      · cases hr
    · cases hr
  | ireturn =>
    obtain rfl : len = 1 := by simpa [okLen] using hle
    simp only [isRet] at hr
    split at hr
    · split at hr
      · rename_i ty hty
        split at hr
        · rename_i hn
          cases hr
          exact W.zret C1 C2 (by rw [C8]; exact hty) hn (fun t ht hW => ⟨rfl, by rw [ht]; exact hR.moved hW.alike⟩) hq hd C9
        · cases hr
      · cases hr
    · cases hr
  | lreturn =>
    obtain rfl : len = 1 := by simpa [okLen] using hle
    simp only [isRet] at hr
    split at hr
    · split at hr
      · rename_i hn
        cases hr
        exact W.lret C1 C2 (by rw [C8]; exact hn) (fun t ht hW => ⟨rfl, by rw [ht]; exact hR.moved hW.alike⟩) hq hd C9
      · cases hr
    · cases hr
  | areturn =>
    obtain rfl : len = 1 := by simpa [okLen] using hle
    simp only [isRet] at hr
    split at hr
    · split at hr
      · rename_i v hn
        cases hr
        refine W.aret C1 C2 (by rw [C8]; exact hn.1) (Or.inl ⟨_, rfl⟩) ?_ (fun t ht hW => ⟨rfl, by rw [ht]; exact hR.moved hW.alike⟩) hq hd C9
        rcases isR_of hn.2 with rfl | ⟨x, rfl⟩
        · exact Or.inl rfl
        · exact Or.inr ⟨_, rfl⟩
      · cases hr
    · cases hr
  | _ => exact absurd hr (by simp [isRet])
theorem isCall_lt (hlk : lnk m i aux = true) {cc : Nat} {as rest : List Value} (hk : isCall i aux S h = some (cc, as, rest)) : cc < 130 := by
  obtain ⟨rfl, -, -, hform⟩ := isCall_spec hk
  rcases hform with ⟨x, rfl, -⟩ | ⟨x, rfl, h999, -⟩ | ⟨x, rfl, -⟩
  · simp only [lnk, Bool.and_eq_true, decide_eq_true_eq] at hlk
    exact hlk.1.1.1
  · simp only [lnk] at hlk
    rw [if_neg h999] at hlk
    simp only [Bool.and_eq_true, decide_eq_true_eq] at hlk
    exact hlk.1.1.1
  · simp only [lnk, Bool.and_eq_true, decide_eq_true_eq] at hlk
    exact hlk.1.1.1
end EXEC
/-- what a run of the small machine gives of the JVM -/
def Snd (l : Launch) (D : va_G) (N b m pc : Nat) (L : AL) (S : List Value) (h : AH) (r : Option Value) (h' : AH) : Prop :=
  (h.length ≤ h'.length ∧ sl h ≤ sl h') ∧ ∀ (p : Program) (e : Env) (R : Room) (s : State) (mm : MethodId) (args : Array Value) (below : List Frame) (meth : Method) (c : Code) (Q : State → Prop) (c0 s0 : Nat), Cx D p R s mm args meth c m → (h'.length ≤ R.cells + c0 ∧ sl h' ≤ R.slots + s0) →
    (∀ (pc : Nat) (L : AL) (S : List Value) (i : Instr) (len aux : Nat), cd m pc = some (i, len, aux) → isRet m i S = some r → Go p l e R s mm args below meth c Q D N b m c0 s0 pc L S h') → Go p l e R s mm args below meth c Q D N b m c0 s0 pc L S h
theorem met_of {l : Launch} {D : va_G} {N b m : Nat} {as : List Value} {h h' : AH} {r : Option Value} (hm : m < 130) (hle : (len0 as).length ≤ mMax m) (H : Snd l D N b m 0 (ent m as) [] h r h') : MetA l D N b m as h r h' := by
  obtain ⟨⟨m1, m2⟩, hS⟩ := H
  obtain ⟨_, _, kd, _, _, -, -, -, wp, -⟩ := okM_use hm
  refine Met.ofW (cc := mBytes m) (maxL := mMax m) (ret := mRet m) wp rfl ?_
  intro p e s mm args below meth c s₁ B hml hv
  obtain ⟨rfl, hR, hK⟩ := hv
  have hts := atoms_spec (ws := Cond.code (mY m) (mBytes m) (mMax m) (mRet m) :: gw) B.pre
  have C : Cx D p (rmA m h h') s mm (as.map (cv N b)).toArray meth c m := ⟨B.exec, B.bytes, hml, findClass_of_methodNamed B.named, fun w hw => hts w (List.mem_cons_of_mem _ hw), hK, fun h9 => (name_of_methodNamed B.named B.method).1.trans h9, B.returns, B.notSynchronized, Nat.le_refl _, Nat.le_refl _, by omega⟩
  have hG := hS p e (rmA m h h') s mm (as.map (cv N b)).toArray below meth c (MQ below (QcA D N b r h') (as.map (cv N b)).toArray s (h'.length - h.length) (sl h' - sl h) (fun q => N ≤ q)) h.length (sl h) C ⟨by show h'.length ≤ (h'.length - h.length) + h.length; omega, by show sl h' ≤ (sl h' - sl h) + sl h; omega⟩ (fun pc L S i len aux hcd hr => by
    obtain ⟨d1, d2, -⟩ := okPc_use (oc_all m (by omega) pc) hcd
    exact go_ret C d1 d2 hr)
  rw [lg_entry_eq]
  exact hG _ s.heap [] 0 0 hR (lR_ent as hle) (fun q hq => by cases hq) (Nat.zero_add _) (Nat.zero_add _)
theorem snd_exec (l : Launch) (D : va_G) (N b : Nat) : ∀ (n m pc : Nat) (L : AL) (S : List Value) (h : AH) (r : Option Value) (h' : AH), m < 131 → exec n m pc L S h = some (r, h') → Snd l D N b m pc L S h r h' := by
  intro n
  induction n with
  | zero => intro m pc L S h r h' hm he; simp [exec] at he
  | succ n ih =>
    intro m pc L S h r h' hm he
    rw [exec] at he
    cases hc : cd m pc with
    | none => rw [hc] at he; simp at he
    | some q =>
      obtain ⟨i, len, aux⟩ := q
      rw [hc] at he
      simp only at he
      obtain ⟨d1, d2, d3⟩ := okPc_use (oc_all m hm pc) hc
      cases hr : isRet m i S with
      | some v =>
        rw [hr] at he
        simp only [Option.some.injEq, Prod.mk.injEq] at he
        obtain ⟨rfl, rfl⟩ := he
        exact ⟨⟨Nat.le_refl _, Nat.le_refl _⟩, fun p e R s mm args below meth c Q c0 s0 C hcap fin => fin pc L S i len aux hc hr⟩
      | none =>
        rw [hr] at he
        simp only at he
        cases hk : isCall i aux S h with
        | some q =>
          obtain ⟨cc, as, rest⟩ := q
          rw [hk] at he
          simp only at he
          have hcc := isCall_lt d3 hk
          have hlen : (len0 as).length ≤ mMax cc := by
            obtain ⟨rfl, -, h9, -⟩ := isCall_spec hk
            exact h9
          cases hx : exec n cc 0 (ent cc as) [] h with
          | none => rw [hx] at he; simp at he
          | some q =>
            obtain ⟨v, h1⟩ := q
            rw [hx] at he
            simp only at he
            have s1 := ih cc 0 (ent cc as) [] h v h1 (by omega) hx
            have hM := met_of hcc hlen s1
            obtain ⟨⟨a1, a2⟩, s2⟩ := ih m (pc + 3) L (v.toList ++ rest) h1 r h' hm he
            obtain ⟨⟨b1, b2⟩, -⟩ := s1
            exact ⟨⟨by omega, by omega⟩, fun p e R s mm args below meth c Q c0 s0 C hcap fin => go_call C d1 d2 d3 hk hM ⟨b1, b2⟩ ⟨by omega, by omega⟩ (s2 p e R s mm args below meth c Q c0 s0 C hcap fin)⟩
        | none =>
          rw [hk] at he
          simp only at he
          cases hs : stp m i aux pc L S h with
          | none => rw [hs] at he; simp at he
          | some q =>
            obtain ⟨pc', L', S', h1⟩ := q
            rw [hs] at he
            simp only at he
            obtain ⟨⟨a1, a2⟩, s2⟩ := ih m pc' L' S' h1 r h' hm he
            refine ⟨?_, fun p e R s mm args below meth c Q c0 s0 C hcap fin => ?_⟩
            · have := stp_mono d3 hs
              omega
            · exact (go_stp C d1 d2 d3 hs).2 ⟨by omega, by omega⟩ (s2 p e R s mm args below meth c Q c0 s0 C hcap fin)
end
section
/-! THE CLAIM OUT OF ONE WALK OF THE LAW'S BODY. Your part is whole_start (and what it stands on); all else here is the same for every law, but numbers. -/
def R_law : String := "FlashTreeLaw"
def lw_P (b : Addr) (xs : List Int32) (args : Array Value) (s : State) : Prop := args = #[.ref b] ∧ s.IntsAt b xs ∧ xs.length ≤ 3072 ∧ (Jvm.Cond.and given_1 narrow_1).before args s = true
def lw_Q (_ : Array Value) (s : State) (o : Outcome) (t : State) : Prop := o = .returned (some (.int 1)) ∧ Framed s o t [] 600000 7302250
def lw_Z (below : List Frame) (a : Array Value) (s : State) : State → Prop := fun t => ∃ o, t.status = .running ∧ Ended t below o ∧ lw_Q a s o t
/-- the law's own end, with 1 on the stack, nothing written that was there before, its room as the claim has it -/
theorem lw_ret {p : Program} {l : Launch} {e : Env} {s : State} {m : MethodId} {below : List Frame} {meth : Method} {c : Code} {b : Nat} (hx : p.tables.exec = Jvm.exec) (hb : c.code = code) (hr : meth.sig.returnType = ret) (hlocks : meth.locks = false) {pc : Nat} {H : Heap} {ls : Array Slot} (hdg : decode code pc = .ok (.ireturn, 1)) : W p l e room_1 s m #[Value.ref b] below meth c H [] 600000 7302250 (lw_Z below #[Value.ref b] s) (F0 m pc ls [.int 1]) := by
  intro T hT X
  obtain ⟨fs, hret, hrun, hended, hW, hframe⟩ := X.leave (v := some (.int 1)) (hlocks := hlocks) (fun h => by rw [hr] at h; cases h)
  have hmeth' : T.vm.method? m = some meth := X.method'
  refine ⟨T.setFrames fs, ?_, .returned (some (.int 1)), hrun, hended, rfl, ⟨_, rfl⟩, hW, hframe⟩
  jvm_step X.here [X.here.top, hx, hb, hdg, hmeth', hr, ret, narrow_b1]
  (try refine ⟨rfl, ?_⟩); (try refine ⟨rfl, ?_⟩)
  first | (intro acts; rw [hret _ acts rfl rfl rfl]) | rw [hret _ _ rfl rfl rfl]
  exact Steps.refl _
/-- what holds at the law's entry: the machine, the code, the tables' words (any of lw_tbl by 'hts w (by decide +kernel)'), the script of L ints xs at the cell b, what the Statement gives of the start (any of its parts by flat_of_before) -/
def lw_At (p : Program) (s : State) (m : MethodId) (meth : Method) (c : Code) (b L : Nat) (xs : Nat → Int32) : Prop :=
  p.tables.exec = Jvm.exec ∧ c.code = code ∧ meth.sig.returnType = ret ∧ c.maxLocals = 4 ∧ s.vm.findClass R_law = some m.cls ∧ (∀ w ∈ lw_tbl, w.before #[Value.ref b] s = true) ∧ va_X b L xs s s.heap ∧ b < s.heap.size ∧ meth.locks = false ∧ (Jvm.Cond.and given_1 narrow_1).before #[Value.ref b] s = true
/-- the script's cell -/
def scr0 (L : Nat) (xs : Nat → Int32) : AC := .inl (.int, L, fun j => .int (xs j))
set_option maxHeartbeats 4000000 in
/-- the law's walk, out of a run of the small machine -/
theorem whole_of_run {p : Program} {e : Env} {s : State} {m : MethodId} {below : List Frame} {meth : Method} {c : Code} (l : Launch) {b L : Nat} {xs : Nat → Int32} {h' : AH} (hrun : RunM 130 [.ref 0] [scr0 L xs] = some (some (.int 1), h')) (hz1 : h'.length ≤ 600001) (hz2 : sl h' ≤ 7302250 + L) (C0 : lw_At p s m meth c b L xs) : W p l e room_1 s m #[Value.ref b] below meth c s.heap [] 0 0 (lw_Z below #[Value.ref b] s) (entryFrame m ([Value.ref b] : List Value).toArray 4) := by
  obtain ⟨hx, hb, hr, hml, hown, hts, hX, hbl, hlocks, hgv⟩ := C0
  obtain ⟨n, hex⟩ := Run_iff.mp hrun
  have hgw : ∀ w ∈ gw, w.before #[Value.ref b] s = true := fun w hw => hts w (gw_sub w hw)
  have hkn : ∀ ci, ci < 6 → ∃ (cC : ClassId) (iS : Nat → Nat), ∀ r : vw_C, vwCl[ci]? = some r → u_Kn s r.1 r.2.1 r.2.2 cC iS := by
    intro ci hci
    obtain ⟨r, hr0⟩ := cl_at ci hci
    obtain ⟨-, hin, -, -, -, hnS, hcN⟩ := cl_ok _ _ hr0
    have hnw := List.all_eq_true.mp NWt_ok ci (List.mem_range.mpr hci)
    rw [Bool.and_eq_true] at hnw
    have w1 := hgw _ (gw_of hnw.1)
    rw [hcN] at w1
    obtain ⟨cC, iS, hk⟩ := u_known (C := r.1) (T := r.2.1) (N := r.2.2) hgw hin w1
    refine ⟨cC, iS, fun r' hr' => ?_⟩
    cases hr0.symm.trans hr'
    exact hk
  obtain ⟨a0, i0, k0⟩ := hkn 0 (by decide)
  obtain ⟨a1, i1, k1⟩ := hkn 1 (by decide)
  obtain ⟨a2, i2, k2⟩ := hkn 2 (by decide)
  obtain ⟨a3, i3, k3⟩ := hkn 3 (by decide)
  obtain ⟨a4, i4, k4⟩ := hkn 4 (by decide)
  obtain ⟨a5, i5, k5⟩ := hkn 5 (by decide)
  obtain ⟨dC, dI, hKc⟩ : ∃ (dC : Nat → ClassId) (dI : Nat → Nat → Nat), ∀ (k : Nat) (q : vw_C), vwCl[k]? = some q → u_Kn s q.1 q.2.1 q.2.2 (dC k) (dI k) := by
    refine ⟨fun k => match k with | 0 => a0 | 1 => a1 | 2 => a2 | 3 => a3 | 4 => a4 | _ => a5, fun k => match k with | 0 => i0 | 1 => i1 | 2 => i2 | 3 => i3 | 4 => i4 | _ => i5, ?_⟩
    intro k q hq
    match k, hq with
    | 0, hq => exact k0 q hq
    | 1, hq => exact k1 q hq
    | 2, hq => exact k2 q hq
    | 3, hq => exact k3 q hq
    | 4, hq => exact k4 q hq
    | 5, hq => exact k5 q hq
    | k + 6, hq => simp [vwCl] at hq
  have hK : KU (dC, dI) s := ⟨⟨hKc, fun k q h => by simp at h⟩, fun w hw => by
    have h9 := hts w (nwS_sub w hw)
    obtain ⟨q, hq, rfl⟩ := List.mem_map.mp hw
    exact va_Nw.of rfl h9, va_AO.of (hts wAO wAO_in)⟩
  have hR0 : Rel (dC, dI) s s.heap.size b [scr0 L xs] s.heap := by
    refine ⟨hbl, by simp, by simp, fun k q hq => ?_⟩
    have hz : k < 1 := (List.getElem?_eq_some_iff.mp hq).1
    rw [show k = 0 by omega] at hq ⊢
    cases hq
    obtain ⟨scr, g1, g2, g3, g4, g5⟩ := hX
    exact ⟨scr, g1, g2, g3, g4, fun j hj => g5 j hj, fun h9 => by cases h9⟩
  obtain ⟨-, hS⟩ := snd_exec l (dC, dI) s.heap.size b n 130 0 (ent 130 [.ref 0]) [] [scr0 L xs] (some (.int 1)) h' (by decide) hex
  have hsl0 : sl [scr0 L xs] = L := by simp [sl, scr0, szE]
  have C : Cx (dC, dI) p room_1 s m #[Value.ref b] meth c 130 := ⟨hx, hb, hml, hown, hgw, hK, fun h9 => absurd h9 (by decide), hr, hlocks, Nat.le_of_ble_eq_true rfl, Nat.le_of_ble_eq_true rfl, by decide⟩
  have hG := hS p e room_1 s m #[Value.ref b] below meth c (lw_Z below #[Value.ref b] s) 1 L C ⟨by show h'.length ≤ 600000 + 1; omega, hz2⟩ (fun pc Lo S i len aux hcd hret => by
      obtain ⟨d1, d2, -⟩ := okPc_use (oc_all 130 (by decide) pc) hcd
      intro ls H locs cells slots hR hl hq hc hsl
      cases i with
      | ireturn =>
        obtain rfl : len = 1 := by simpa [okLen] using d2
        simp only [isRet] at hret
        split at hret
        · split at hret
          · split at hret
            · cases hret
              refine va_forget (fun q h9 => hq q h9) ?_
              refine W.widen (k := 600000) (n := 7302250) (by omega) (by omega) ?_
              exact lw_ret hx hb hr hlocks d1
            · cases hret
          · cases hret
        · cases hret
      | lreturn => simp only [isRet] at hret; (repeat' split at hret) <;> first | (cases hret; done) | (rename_i hcon; exact absurd hcon.1 (by decide))
      | areturn => simp only [isRet] at hret; (repeat' split at hret) <;> first | (cases hret; done) | (rename_i hcon; exact absurd hcon.1 (by decide))
      | return_ => simp only [isRet] at hret; (repeat' split at hret) <;> first | (cases hret; done) | (rename_i hcon; exact absurd hcon.1 (by decide))
      | _ => exact absurd hret (by simp [isRet]))
  rw [lg_entry_eq]
  exact hG _ s.heap [] 0 0 hR0 (lR_ent (N := s.heap.size) (b := b) (m := 130) [.ref 0] (by decide)) (fun q hq => by cases hq) rfl (by rw [hsl0]; omega)
end
section
theorem law_run {L : Nat} (xs : Nat → Int32) (hL : L ≤ 3072) : ∃ h', RunM 130 [.ref 0] [scr0 L xs] = some (some (.int 1), h') ∧ h'.length ≤ 600001 ∧ sl h' ≤ 7302250 + L := by
  sorry
theorem whole_start {p : Program} {e : Env} {s : State} {m : MethodId} {below : List Frame} {meth : Method} {c : Code} (l : Launch) {b L : Nat} {xs : Nat → Int32} (hL : L ≤ 3072) (C0 : lw_At p s m meth c b L xs) : W p l e room_1 s m #[Value.ref b] below meth c s.heap [] 0 0 (lw_Z below #[Value.ref b] s) (entryFrame m ([Value.ref b] : List Value).toArray 4) := by
  obtain ⟨h', h1, h2, h3⟩ := law_run xs hL
  exact whole_of_run l h1 h2 h3 C0
set_option maxHeartbeats 4000000 in
theorem lw_walk (l : Launch) (b : Addr) (xs : List Int32) : MetFree l x (headSpec (Jvm.Cond.code x code maxLocals ret :: tables_1) room_1) (lw_P b xs) (fun _ _ _ _ _ => True) lw_Q := by
  refine MetFree.of_bodyS (code := code) (maxLocals := maxLocals) (ret := ret) (by decide) ?_ ?_
  · intro args s m h hn
    obtain ⟨meth, c, h1, h2, h3, h4, h5, h6, -, -⟩ := Cond.code_spec hn (atoms_spec (ws := Jvm.Cond.code x code maxLocals ret :: tables_1) h _ List.mem_cons_self)
    exact ⟨meth, c, h1, h2, h3, h4, h5, h6⟩
  · intro p e s m args below meth c s₁ B hml0 hP _
    obtain ⟨rfl, hx, hbd, hgv⟩ := hP
    obtain ⟨scr, harrAt, hlist, hof, hsmall⟩ := hx
    obtain ⟨hcb, hkn, -, -⟩ := State.arrayAt?_spec harrAt
    have hown : s.vm.findClass R_law = some m.cls := findClass_of_methodNamed B.named
    have hts0 : ∀ c ∈ (Jvm.Cond.code x code maxLocals ret :: tables_1), c.before #[Value.ref b] s = true := atoms_spec (ws := Jvm.Cond.code x code maxLocals ret :: tables_1) B.pre
    have hts : ∀ w ∈ lw_tbl, w.before #[Value.ref b] s = true := k2_hts_sels lw_privs (fun w hw => hts0 w (List.mem_cons_of_mem _ hw)) lw_privs_ok
    have hml : c.maxLocals = 4 := B.maxLocals_eq (hts0 _ List.mem_cons_self)
    have X₀ : Stand p l e room_1 s m #[Value.ref b] below meth c s₁ [] 0 0 := Stand.of_body B
    have hh0 : s₁.heap = s.heap := by rw [B.state]; rfl
    have hsz : scr.slots.size = xs.length := by rw [← Array.length_toList, hlist, List.length_map]
    have hval : ∀ j : Nat, j < xs.length → scr.slots[j]? = some (.int (xs.getD j 0)) := fun j hj => by
      rw [← Array.getElem?_toList, hlist]
      simp [hj]
    have hbl : b < s.heap.size := (Array.getElem?_eq_some_iff.mp hcb).1
    have hX : va_X b xs.length (fun j => xs.getD j 0) s s.heap := ⟨scr, hcb, hof, hkn, hsz, hval⟩
    have K : W p l e room_1 s m #[Value.ref b] below meth c s₁.heap [] 0 0 (lw_Z below #[Value.ref b] s) (entryFrame m ([Value.ref b] : List Value).toArray 4) := by
      rw [hh0]
      exact whole_start l hbd ⟨B.exec, B.bytes, B.returns, hml, hown, hts, hX, hbl, B.notSynchronized, hgv⟩
    obtain ⟨t, a1, o, b1, b2, b3⟩ := K s₁ rfl X₀
    exact ⟨t, o, a1, b1, b2, b3⟩
theorem lw_pre_spec {args : Array Value} {s : State} (h : (Jvm.Cond.and given_1 narrow_1).before args s = true) (hr : rest_1_c.before args s = true) : ∃ (b : Addr) (xs : List Int32), lw_P b xs args s := by
  have hs := flat_of_before _ h
  have hq := flat_of_before _ hr
  have hc : (Cond.count 1).before args s = true := hs _ (by decide +kernel)
  have harr : (Cond.arrayOf (.arg 0) .int).before args s = true := hs _ (by decide +kernel)
  have hle : (Cond.le (.length (.arg 0)) (.int 3072)).before args s = true := hs _ (by decide +kernel)
  have hlen : (Cond.isInt (.length (.arg 0))).before args s = true := hq _ (by decide +kernel)
  have hall : (Cond.all (.arg 0) (.isInt (.elem (.arg 0) (.index 0)))).before args s = true := hq _ (by decide +kernel)
  obtain ⟨b, xs, hb, hx⟩ := State.ints_of_pre rfl harr hlen hall
  have hsm : xs.length < 2 ^ 31 := hx.choose_spec.2.2.2
  have hev : (Term.length (.arg 0)).eval args s none [] s = some (.int xs.length.toInt32) := hx.length_eval hb
  have hv := Cond.le_ints hev (show (Term.int 3072).eval args s none [] s = some (.int 3072) from rfl)
  have hd : xs.length.toInt32 ≤ 3072 := by
    simpa [Cond.before, Cond.holds, hv] using hle
  have hN : xs.length ≤ 3072 := (Int32.ofNat_le_ofNat hsm (by decide)).mp (show Int32.ofNat xs.length ≤ Int32.ofNat 3072 from hd)
  exact ⟨b, xs, Cond.one_arg hc (show args[0]? = some (.ref b) from hb), hx, hN, h⟩
theorem lw_comes (l : Launch) : Comes l x (Jvm.Cond.code x code maxLocals ret :: tables_1) room_1 (fun tb e args s => Calls_1 tb e args s ∧ rest_1 tb e args s ∧ Pre_1 tb e args s)
    (fun _ _ args s o t => lw_Q args s o t) := by
  intro p e ha hc hk s m args below hf hfit hheap happ hpre
  obtain ⟨b, xs, hP⟩ := lw_pre_spec hpre.2.2 hpre.2.1
  obtain ⟨k, o, h1, h2, h3, hQ⟩ := lw_walk l b xs p e ha hc hk s m args below hf ((Spec.applies_iff_loose hf).mp happ).1 hP trivial
  exact ⟨k, o, h1, h2, h3, hQ⟩
theorem lw_frame {s t : State} {o : Outcome} {args : Array Value} (h : Framed s o t [] 600000 7302250) :
    Framed s o t (fieldLocs frame_1_writes args s ++ arrayLocs frame_1_arrays args s ++ staticLocs frame_1_statics s) 600000 7302250 := h
theorem lw_limb (L : Cond) (hL : ∀ (args : Array Value) (s t : State), L.after args s (.returned (some (.int 1))) t = true) :
    ArmFor flags0 classFile x code maxLocals ret World_1 tables_1 room_1 Calls_1 rest_1 Pre_1
      (fun tb e a s o t => postC L tb e a s o t ∧ Framed s o t (fieldLocs frame_1_writes a s ++ arrayLocs frame_1_arrays a s ++ staticLocs frame_1_statics s) 600000 7302250) := by
  intro l _ _ _ p e ha hc hk s m args below hf hfit hheap happ hpre
  obtain ⟨k, o, h1, h2, h3, rfl, hF⟩ := lw_comes l p e ha hc hk s m args below hf hfit hheap happ hpre
  exact ⟨k, _, h1, h2, h3, hL args s _, lw_frame hF⟩
theorem i_vc : Claimed_1_1 ∧ Claimed_1_2 := ⟨lw_limb limb_1_1 (fun args s t => by simp [limb_1_1, Cond.after, Cond.holds, Cond.value]), lw_limb limb_1_2 (fun args s t => Cond.after_iff.mpr (by
  first | (rw [show limb_1_2 = Cond.eq .result (.int 1) from rfl, Cond.eq_ints (x := 1) (y := 1) rfl rfl]; simp; done) | (simp [limb_1_2, Cond.value, Term.eval]; done)))⟩
end
