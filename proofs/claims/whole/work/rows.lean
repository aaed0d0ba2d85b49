section
-- ===== PART A: goes FIRST, ahead of the names: the tables' words, and 'selects' of the private methods out of them =====
/-- a private method of a class that the tables say can be made, by its rows of tables_1 -/
def lw_okq (q : MethodName × Nat) : Prop := (q.1.cls ≠ "java/lang/invoke/MethodHandle" ∧ q.1.cls ≠ "java/lang/invoke/VarHandle") ∧ Cond.instantiable q.1.cls q.2 ∈ tables_1 ∧ Cond.privateMethod q.1 ∈ tables_1 ∧ Cond.instanceMethod q.1 ∈ tables_1
theorem lw_p0 : lw_okq (⟨"StoragePath$Link", "layOnWire", "()V"⟩, 13) := ⟨⟨by decide +kernel, by decide +kernel⟩, List.mem_of_getElem? (i := 38) (by decide +kernel), List.mem_of_getElem? (i := 265) (by decide +kernel), List.mem_of_getElem? (i := 266) (by decide +kernel)⟩
theorem lw_p1 : lw_okq (⟨"StoragePath$Link", "scrambled", "(II)I"⟩, 13) := ⟨⟨by decide +kernel, by decide +kernel⟩, List.mem_of_getElem? (i := 38) (by decide +kernel), List.mem_of_getElem? (i := 270) (by decide +kernel), List.mem_of_getElem? (i := 271) (by decide +kernel)⟩
theorem lw_p2 : lw_okq (⟨"StoragePath$Link", "putBits", "(I)V"⟩, 13) := ⟨⟨by decide +kernel, by decide +kernel⟩, List.mem_of_getElem? (i := 38) (by decide +kernel), List.mem_of_getElem? (i := 275) (by decide +kernel), List.mem_of_getElem? (i := 276) (by decide +kernel)⟩
theorem lw_p3 : lw_okq (⟨"StoragePath$Link", "turnFaultyBits", "()V"⟩, 13) := ⟨⟨by decide +kernel, by decide +kernel⟩, List.mem_of_getElem? (i := 38) (by decide +kernel), List.mem_of_getElem? (i := 279) (by decide +kernel), List.mem_of_getElem? (i := 280) (by decide +kernel)⟩
theorem lw_p4 : lw_okq (⟨"StoragePath$Link", "receive", "()I"⟩, 13) := ⟨⟨by decide +kernel, by decide +kernel⟩, List.mem_of_getElem? (i := 38) (by decide +kernel), List.mem_of_getElem? (i := 283) (by decide +kernel), List.mem_of_getElem? (i := 284) (by decide +kernel)⟩
theorem lw_p5 : lw_okq (⟨"StoragePath$Link", "wordAt", "(I)I"⟩, 13) := ⟨⟨by decide +kernel, by decide +kernel⟩, List.mem_of_getElem? (i := 38) (by decide +kernel), List.mem_of_getElem? (i := 288) (by decide +kernel), List.mem_of_getElem? (i := 289) (by decide +kernel)⟩
theorem lw_p6 : lw_okq (⟨"StoragePath$Link", "isMisplaced", "(III)Z"⟩, 13) := ⟨⟨by decide +kernel, by decide +kernel⟩, List.mem_of_getElem? (i := 38) (by decide +kernel), List.mem_of_getElem? (i := 293) (by decide +kernel), List.mem_of_getElem? (i := 294) (by decide +kernel)⟩
theorem lw_p7 : lw_okq (⟨"StoragePath$Link", "placeOfFinding", "(I)I"⟩, 13) := ⟨⟨by decide +kernel, by decide +kernel⟩, List.mem_of_getElem? (i := 38) (by decide +kernel), List.mem_of_getElem? (i := 302) (by decide +kernel), List.mem_of_getElem? (i := 303) (by decide +kernel)⟩
theorem lw_p8 : lw_okq (⟨"StoragePath", "issue", "(IIII)I"⟩, 10) := ⟨⟨by decide +kernel, by decide +kernel⟩, List.mem_of_getElem? (i := 10) (by decide +kernel), List.mem_of_getElem? (i := 344) (by decide +kernel), List.mem_of_getElem? (i := 345) (by decide +kernel)⟩
theorem lw_p9 : lw_okq (⟨"StoragePath", "commandOf", "(I)LStoragePath$Command;"⟩, 10) := ⟨⟨by decide +kernel, by decide +kernel⟩, List.mem_of_getElem? (i := 10) (by decide +kernel), List.mem_of_getElem? (i := 348) (by decide +kernel), List.mem_of_getElem? (i := 349) (by decide +kernel)⟩
theorem lw_p10 : lw_okq (⟨"StoragePath", "nextCommand", "()LStoragePath$Command;"⟩, 10) := ⟨⟨by decide +kernel, by decide +kernel⟩, List.mem_of_getElem? (i := 10) (by decide +kernel), List.mem_of_getElem? (i := 376) (by decide +kernel), List.mem_of_getElem? (i := 377) (by decide +kernel)⟩
theorem lw_p11 : lw_okq (⟨"StoragePath", "goesAhead", "(LStoragePath$Command;LStoragePath$Command;)Z"⟩, 10) := ⟨⟨by decide +kernel, by decide +kernel⟩, List.mem_of_getElem? (i := 10) (by decide +kernel), List.mem_of_getElem? (i := 380) (by decide +kernel), List.mem_of_getElem? (i := 381) (by decide +kernel)⟩
theorem lw_p12 : lw_okq (⟨"StoragePath", "distance", "(LStoragePath$Command;)I"⟩, 10) := ⟨⟨by decide +kernel, by decide +kernel⟩, List.mem_of_getElem? (i := 10) (by decide +kernel), List.mem_of_getElem? (i := 384) (by decide +kernel), List.mem_of_getElem? (i := 385) (by decide +kernel)⟩
theorem lw_p13 : lw_okq (⟨"StoragePath", "carryOut", "(LStoragePath$Command;)I"⟩, 10) := ⟨⟨by decide +kernel, by decide +kernel⟩, List.mem_of_getElem? (i := 10) (by decide +kernel), List.mem_of_getElem? (i := 392) (by decide +kernel), List.mem_of_getElem? (i := 393) (by decide +kernel)⟩
theorem lw_p14 : lw_okq (⟨"StoragePath$Disk", "placeInCache", "(I)I"⟩, 4) := ⟨⟨by decide +kernel, by decide +kernel⟩, List.mem_of_getElem? (i := 104) (by decide +kernel), List.mem_of_getElem? (i := 409) (by decide +kernel), List.mem_of_getElem? (i := 410) (by decide +kernel)⟩
theorem lw_p15 : lw_okq (⟨"StoragePath", "keepNumber", "(LStoragePath$Command;II)V"⟩, 10) := ⟨⟨by decide +kernel, by decide +kernel⟩, List.mem_of_getElem? (i := 10) (by decide +kernel), List.mem_of_getElem? (i := 426) (by decide +kernel), List.mem_of_getElem? (i := 427) (by decide +kernel)⟩
def lw_privs_1 : List (MethodName × Nat) := [(⟨"StoragePath$Link", "layOnWire", "()V"⟩, 13), (⟨"StoragePath$Link", "scrambled", "(II)I"⟩, 13), (⟨"StoragePath$Link", "putBits", "(I)V"⟩, 13), (⟨"StoragePath$Link", "turnFaultyBits", "()V"⟩, 13), (⟨"StoragePath$Link", "receive", "()I"⟩, 13), (⟨"StoragePath$Link", "wordAt", "(I)I"⟩, 13), (⟨"StoragePath$Link", "isMisplaced", "(III)Z"⟩, 13), (⟨"StoragePath$Link", "placeOfFinding", "(I)I"⟩, 13), (⟨"StoragePath", "issue", "(IIII)I"⟩, 10), (⟨"StoragePath", "commandOf", "(I)LStoragePath$Command;"⟩, 10), (⟨"StoragePath", "nextCommand", "()LStoragePath$Command;"⟩, 10), (⟨"StoragePath", "goesAhead", "(LStoragePath$Command;LStoragePath$Command;)Z"⟩, 10), (⟨"StoragePath", "distance", "(LStoragePath$Command;)I"⟩, 10), (⟨"StoragePath", "carryOut", "(LStoragePath$Command;)I"⟩, 10), (⟨"StoragePath$Disk", "placeInCache", "(I)I"⟩, 4), (⟨"StoragePath", "keepNumber", "(LStoragePath$Command;II)V"⟩, 10)]
theorem lw_r1 : ∀ q ∈ lw_privs_1, lw_okq q := List.forall_mem_cons.mpr ⟨lw_p0, List.forall_mem_cons.mpr ⟨lw_p1, List.forall_mem_cons.mpr ⟨lw_p2, List.forall_mem_cons.mpr ⟨lw_p3, List.forall_mem_cons.mpr ⟨lw_p4, List.forall_mem_cons.mpr ⟨lw_p5, List.forall_mem_cons.mpr ⟨lw_p6, List.forall_mem_cons.mpr ⟨lw_p7, List.forall_mem_cons.mpr ⟨lw_p8, List.forall_mem_cons.mpr ⟨lw_p9, List.forall_mem_cons.mpr ⟨lw_p10, List.forall_mem_cons.mpr ⟨lw_p11, List.forall_mem_cons.mpr ⟨lw_p12, List.forall_mem_cons.mpr ⟨lw_p13, List.forall_mem_cons.mpr ⟨lw_p14, List.forall_mem_cons.mpr ⟨lw_p15, fun _ h => absurd h List.not_mem_nil⟩⟩⟩⟩⟩⟩⟩⟩⟩⟩⟩⟩⟩⟩⟩⟩
theorem lw_p16 : lw_okq (⟨"StoragePath$Disk", "putOnDisk", "(II)V"⟩, 4) := ⟨⟨by decide +kernel, by decide +kernel⟩, List.mem_of_getElem? (i := 104) (by decide +kernel), List.mem_of_getElem? (i := 435) (by decide +kernel), List.mem_of_getElem? (i := 436) (by decide +kernel)⟩
theorem lw_p17 : lw_okq (⟨"StoragePath$Disk", "removeFromCache", "(I)V"⟩, 4) := ⟨⟨by decide +kernel, by decide +kernel⟩, List.mem_of_getElem? (i := 104) (by decide +kernel), List.mem_of_getElem? (i := 439) (by decide +kernel), List.mem_of_getElem? (i := 440) (by decide +kernel)⟩
theorem lw_p18 : lw_okq (⟨"StoragePath", "commandsAt", "(I)I"⟩, 10) := ⟨⟨by decide +kernel, by decide +kernel⟩, List.mem_of_getElem? (i := 10) (by decide +kernel), List.mem_of_getElem? (i := 510) (by decide +kernel), List.mem_of_getElem? (i := 511) (by decide +kernel)⟩
theorem lw_p19 : lw_okq (⟨"StoragePathModel", "wordOf", "(IZ)I"⟩, 35) := ⟨⟨by decide +kernel, by decide +kernel⟩, List.mem_of_getElem? (i := 514) (by decide +kernel), List.mem_of_getElem? (i := 636) (by decide +kernel), List.mem_of_getElem? (i := 637) (by decide +kernel)⟩
theorem lw_p20 : lw_okq (⟨"StoragePathModel", "valueOf", "(IZ)I"⟩, 35) := ⟨⟨by decide +kernel, by decide +kernel⟩, List.mem_of_getElem? (i := 514) (by decide +kernel), List.mem_of_getElem? (i := 647) (by decide +kernel), List.mem_of_getElem? (i := 648) (by decide +kernel)⟩
theorem lw_p21 : lw_okq (⟨"StoragePathModel", "unevenOf", "(IZ)I"⟩, 35) := ⟨⟨by decide +kernel, by decide +kernel⟩, List.mem_of_getElem? (i := 514) (by decide +kernel), List.mem_of_getElem? (i := 651) (by decide +kernel), List.mem_of_getElem? (i := 652) (by decide +kernel)⟩
theorem lw_p22 : lw_okq (⟨"StoragePathModel", "sendOnce", "()I"⟩, 35) := ⟨⟨by decide +kernel, by decide +kernel⟩, List.mem_of_getElem? (i := 514) (by decide +kernel), List.mem_of_getElem? (i := 675) (by decide +kernel), List.mem_of_getElem? (i := 676) (by decide +kernel)⟩
theorem lw_p23 : lw_okq (⟨"StoragePathModel", "layWire", "()V"⟩, 35) := ⟨⟨by decide +kernel, by decide +kernel⟩, List.mem_of_getElem? (i := 514) (by decide +kernel), List.mem_of_getElem? (i := 679) (by decide +kernel), List.mem_of_getElem? (i := 680) (by decide +kernel)⟩
theorem lw_p24 : lw_okq (⟨"StoragePathModel", "wireWord", "(I)V"⟩, 35) := ⟨⟨by decide +kernel, by decide +kernel⟩, List.mem_of_getElem? (i := 514) (by decide +kernel), List.mem_of_getElem? (i := 684) (by decide +kernel), List.mem_of_getElem? (i := 685) (by decide +kernel)⟩
theorem lw_p25 : lw_okq (⟨"StoragePathModel", "nextScramble", "()I"⟩, 35) := ⟨⟨by decide +kernel, by decide +kernel⟩, List.mem_of_getElem? (i := 514) (by decide +kernel), List.mem_of_getElem? (i := 688) (by decide +kernel), List.mem_of_getElem? (i := 689) (by decide +kernel)⟩
theorem lw_p26 : lw_okq (⟨"StoragePathModel", "receive", "()I"⟩, 35) := ⟨⟨by decide +kernel, by decide +kernel⟩, List.mem_of_getElem? (i := 514) (by decide +kernel), List.mem_of_getElem? (i := 693) (by decide +kernel), List.mem_of_getElem? (i := 694) (by decide +kernel)⟩
theorem lw_p27 : lw_okq (⟨"StoragePathModel", "findWord", "(II)I"⟩, 35) := ⟨⟨by decide +kernel, by decide +kernel⟩, List.mem_of_getElem? (i := 514) (by decide +kernel), List.mem_of_getElem? (i := 697) (by decide +kernel), List.mem_of_getElem? (i := 698) (by decide +kernel)⟩
theorem lw_p28 : lw_okq (⟨"StoragePathModel", "against", "(III)I"⟩, 35) := ⟨⟨by decide +kernel, by decide +kernel⟩, List.mem_of_getElem? (i := 514) (by decide +kernel), List.mem_of_getElem? (i := 722) (by decide +kernel), List.mem_of_getElem? (i := 723) (by decide +kernel)⟩
theorem lw_p29 : lw_okq (⟨"StoragePathModel", "issue", "(IIII)I"⟩, 35) := ⟨⟨by decide +kernel, by decide +kernel⟩, List.mem_of_getElem? (i := 514) (by decide +kernel), List.mem_of_getElem? (i := 729) (by decide +kernel), List.mem_of_getElem? (i := 730) (by decide +kernel)⟩
theorem lw_p30 : lw_okq (⟨"StoragePathModel", "next", "()I"⟩, 35) := ⟨⟨by decide +kernel, by decide +kernel⟩, List.mem_of_getElem? (i := 514) (by decide +kernel), List.mem_of_getElem? (i := 745) (by decide +kernel), List.mem_of_getElem? (i := 746) (by decide +kernel)⟩
theorem lw_p31 : lw_okq (⟨"StoragePathModel", "isAhead", "(II)Z"⟩, 35) := ⟨⟨by decide +kernel, by decide +kernel⟩, List.mem_of_getElem? (i := 514) (by decide +kernel), List.mem_of_getElem? (i := 749) (by decide +kernel), List.mem_of_getElem? (i := 750) (by decide +kernel)⟩
def lw_privs_2 : List (MethodName × Nat) := [(⟨"StoragePath$Disk", "putOnDisk", "(II)V"⟩, 4), (⟨"StoragePath$Disk", "removeFromCache", "(I)V"⟩, 4), (⟨"StoragePath", "commandsAt", "(I)I"⟩, 10), (⟨"StoragePathModel", "wordOf", "(IZ)I"⟩, 35), (⟨"StoragePathModel", "valueOf", "(IZ)I"⟩, 35), (⟨"StoragePathModel", "unevenOf", "(IZ)I"⟩, 35), (⟨"StoragePathModel", "sendOnce", "()I"⟩, 35), (⟨"StoragePathModel", "layWire", "()V"⟩, 35), (⟨"StoragePathModel", "wireWord", "(I)V"⟩, 35), (⟨"StoragePathModel", "nextScramble", "()I"⟩, 35), (⟨"StoragePathModel", "receive", "()I"⟩, 35), (⟨"StoragePathModel", "findWord", "(II)I"⟩, 35), (⟨"StoragePathModel", "against", "(III)I"⟩, 35), (⟨"StoragePathModel", "issue", "(IIII)I"⟩, 35), (⟨"StoragePathModel", "next", "()I"⟩, 35), (⟨"StoragePathModel", "isAhead", "(II)Z"⟩, 35)]
theorem lw_r2 : ∀ q ∈ lw_privs_2, lw_okq q := List.forall_mem_cons.mpr ⟨lw_p16, List.forall_mem_cons.mpr ⟨lw_p17, List.forall_mem_cons.mpr ⟨lw_p18, List.forall_mem_cons.mpr ⟨lw_p19, List.forall_mem_cons.mpr ⟨lw_p20, List.forall_mem_cons.mpr ⟨lw_p21, List.forall_mem_cons.mpr ⟨lw_p22, List.forall_mem_cons.mpr ⟨lw_p23, List.forall_mem_cons.mpr ⟨lw_p24, List.forall_mem_cons.mpr ⟨lw_p25, List.forall_mem_cons.mpr ⟨lw_p26, List.forall_mem_cons.mpr ⟨lw_p27, List.forall_mem_cons.mpr ⟨lw_p28, List.forall_mem_cons.mpr ⟨lw_p29, List.forall_mem_cons.mpr ⟨lw_p30, List.forall_mem_cons.mpr ⟨lw_p31, fun _ h => absurd h List.not_mem_nil⟩⟩⟩⟩⟩⟩⟩⟩⟩⟩⟩⟩⟩⟩⟩⟩
theorem lw_p32 : lw_okq (⟨"StoragePathModel", "done", "(I)I"⟩, 35) := ⟨⟨by decide +kernel, by decide +kernel⟩, List.mem_of_getElem? (i := 514) (by decide +kernel), List.mem_of_getElem? (i := 756) (by decide +kernel), List.mem_of_getElem? (i := 757) (by decide +kernel)⟩
theorem lw_p33 : lw_okq (⟨"StoragePathModel", "send", "()Z"⟩, 35) := ⟨⟨by decide +kernel, by decide +kernel⟩, List.mem_of_getElem? (i := 514) (by decide +kernel), List.mem_of_getElem? (i := 760) (by decide +kernel), List.mem_of_getElem? (i := 761) (by decide +kernel)⟩
theorem lw_p34 : lw_okq (⟨"StoragePathModel", "three", "(III)V"⟩, 35) := ⟨⟨by decide +kernel, by decide +kernel⟩, List.mem_of_getElem? (i := 514) (by decide +kernel), List.mem_of_getElem? (i := 764) (by decide +kernel), List.mem_of_getElem? (i := 765) (by decide +kernel)⟩
theorem lw_p35 : lw_okq (⟨"StoragePathModel", "reads", "(I)I"⟩, 35) := ⟨⟨by decide +kernel, by decide +kernel⟩, List.mem_of_getElem? (i := 514) (by decide +kernel), List.mem_of_getElem? (i := 768) (by decide +kernel), List.mem_of_getElem? (i := 769) (by decide +kernel)⟩
theorem lw_p36 : lw_okq (⟨"StoragePathModel", "placeOf", "(I)I"⟩, 35) := ⟨⟨by decide +kernel, by decide +kernel⟩, List.mem_of_getElem? (i := 514) (by decide +kernel), List.mem_of_getElem? (i := 772) (by decide +kernel), List.mem_of_getElem? (i := 773) (by decide +kernel)⟩
theorem lw_p37 : lw_okq (⟨"StoragePathModel", "number", "(II)V"⟩, 35) := ⟨⟨by decide +kernel, by decide +kernel⟩, List.mem_of_getElem? (i := 514) (by decide +kernel), List.mem_of_getElem? (i := 776) (by decide +kernel), List.mem_of_getElem? (i := 777) (by decide +kernel)⟩
theorem lw_p38 : lw_okq (⟨"StoragePathModel", "through", "(II)V"⟩, 35) := ⟨⟨by decide +kernel, by decide +kernel⟩, List.mem_of_getElem? (i := 514) (by decide +kernel), List.mem_of_getElem? (i := 780) (by decide +kernel), List.mem_of_getElem? (i := 781) (by decide +kernel)⟩
theorem lw_p39 : lw_okq (⟨"StoragePathModel", "leave", "(I)V"⟩, 35) := ⟨⟨by decide +kernel, by decide +kernel⟩, List.mem_of_getElem? (i := 514) (by decide +kernel), List.mem_of_getElem? (i := 784) (by decide +kernel), List.mem_of_getElem? (i := 785) (by decide +kernel)⟩
theorem lw_p40 : lw_okq (⟨"StoragePathModel", "written", "(II)V"⟩, 35) := ⟨⟨by decide +kernel, by decide +kernel⟩, List.mem_of_getElem? (i := 514) (by decide +kernel), List.mem_of_getElem? (i := 788) (by decide +kernel), List.mem_of_getElem? (i := 789) (by decide +kernel)⟩
theorem lw_p41 : lw_okq (⟨"StoragePathModel", "lay", "(I)V"⟩, 35) := ⟨⟨by decide +kernel, by decide +kernel⟩, List.mem_of_getElem? (i := 514) (by decide +kernel), List.mem_of_getElem? (i := 792) (by decide +kernel), List.mem_of_getElem? (i := 793) (by decide +kernel)⟩
theorem lw_p42 : lw_okq (⟨"StoragePathModel", "tags", "(I)I"⟩, 35) := ⟨⟨by decide +kernel, by decide +kernel⟩, List.mem_of_getElem? (i := 514) (by decide +kernel), List.mem_of_getElem? (i := 833) (by decide +kernel), List.mem_of_getElem? (i := 834) (by decide +kernel)⟩
def lw_privs_3 : List (MethodName × Nat) := [(⟨"StoragePathModel", "done", "(I)I"⟩, 35), (⟨"StoragePathModel", "send", "()Z"⟩, 35), (⟨"StoragePathModel", "three", "(III)V"⟩, 35), (⟨"StoragePathModel", "reads", "(I)I"⟩, 35), (⟨"StoragePathModel", "placeOf", "(I)I"⟩, 35), (⟨"StoragePathModel", "number", "(II)V"⟩, 35), (⟨"StoragePathModel", "through", "(II)V"⟩, 35), (⟨"StoragePathModel", "leave", "(I)V"⟩, 35), (⟨"StoragePathModel", "written", "(II)V"⟩, 35), (⟨"StoragePathModel", "lay", "(I)V"⟩, 35), (⟨"StoragePathModel", "tags", "(I)I"⟩, 35)]
theorem lw_r3 : ∀ q ∈ lw_privs_3, lw_okq q := List.forall_mem_cons.mpr ⟨lw_p32, List.forall_mem_cons.mpr ⟨lw_p33, List.forall_mem_cons.mpr ⟨lw_p34, List.forall_mem_cons.mpr ⟨lw_p35, List.forall_mem_cons.mpr ⟨lw_p36, List.forall_mem_cons.mpr ⟨lw_p37, List.forall_mem_cons.mpr ⟨lw_p38, List.forall_mem_cons.mpr ⟨lw_p39, List.forall_mem_cons.mpr ⟨lw_p40, List.forall_mem_cons.mpr ⟨lw_p41, List.forall_mem_cons.mpr ⟨lw_p42, fun _ h => absurd h List.not_mem_nil⟩⟩⟩⟩⟩⟩⟩⟩⟩⟩⟩
def lw_privs : List (MethodName × Nat) := lw_privs_1 ++ (lw_privs_2 ++ (lw_privs_3))
def lw_tbl : List Cond := k2_sels lw_privs ++ tables_1
theorem lw_privs_ok : ∀ q ∈ lw_privs, lw_okq q := by
  show ∀ q ∈ lw_privs_1 ++ (lw_privs_2 ++ (lw_privs_3)), lw_okq q
  exact List.forall_mem_append.mpr ⟨lw_r1, List.forall_mem_append.mpr ⟨lw_r2, lw_r3⟩⟩
-- ===== end of PART A; then your names; then what follows =====
end
section
def RX0 : String := "StoragePath$Bytes"
def TX0 : u_T := fun k => match k with
  | 0 => ("StoragePath$Bytes", "row", "[I", true)
  | _ => ("StoragePath$Bytes", "length", "I", false)
def tyX0 : Nat → FieldType := fun k => match k with
  | 0 => .array .int
  | _ => .int
abbrev wsX00 : List Cond := u_ws RX0 TX0 2
theorem nmX0 : ∀ a, a < 2 → ∀ b, b < 2 → a ≠ b → (TX0 a).2.1 ≠ (TX0 b).2.1 := by decide +kernel
theorem tyX0_ok : ∀ k, k < 2 → parseFieldDescriptor (TX0 k).2.2.1 = some (tyX0 k) := by decide +kernel
abbrev cX0_init : ByteArray := prog_2_method_1_code
def yX0_init : MethodName := ⟨RX0, "<init>", "()V"⟩
abbrev cX0_size : ByteArray := prog_2_method_2_code
def yX0_size : MethodName := ⟨RX0, "size", "()I"⟩
abbrev cX0_at : ByteArray := prog_2_method_3_code
def yX0_at : MethodName := ⟨RX0, "at", "(I)I"⟩
abbrev cX0_clear : ByteArray := prog_2_method_4_code
def yX0_clear : MethodName := ⟨RX0, "clear", "()V"⟩
abbrev cX0_add : ByteArray := prog_2_method_5_code
def yX0_add : MethodName := ⟨RX0, "add", "(I)V"⟩
abbrev cX0_addNumber : ByteArray := prog_2_method_6_code
def yX0_addNumber : MethodName := ⟨RX0, "addNumber", "(I)V"⟩
abbrev cX0_numberAt : ByteArray := prog_2_method_7_code
def yX0_numberAt : MethodName := ⟨RX0, "numberAt", "(I)I"⟩
abbrev cX0_copy : ByteArray := prog_2_method_8_code
def yX0_copy : MethodName := ⟨RX0, "copy", "(LStoragePath$Bytes;)V"⟩
abbrev cX0_setOrder : ByteArray := prog_2_method_9_code
def yX0_setOrder : MethodName := ⟨RX0, "setOrder", "(LStoragePath$Command;)V"⟩
abbrev cX0_setNumber : ByteArray := prog_2_method_10_code
def yX0_setNumber : MethodName := ⟨RX0, "setNumber", "(II)V"⟩
abbrev cX0_setAnswer : ByteArray := prog_2_method_11_code
def yX0_setAnswer : MethodName := ⟨RX0, "setAnswer", "(II)V"⟩
abbrev cX0_checksum : ByteArray := prog_2_method_12_code
def yX0_checksum : MethodName := ⟨RX0, "checksum", "(I)I"⟩
def RX1 : String := "StoragePath$Code"
def TX1 : u_T := fun k => match k with
  | 0 => ("StoragePath$Code", "lackWords", "[I", true)
  | _ => ("StoragePath$Code", "values", "[I", true)
def tyX1 : Nat → FieldType := fun k => match k with
  | 0 => .array .int
  | _ => .array .int
abbrev wsX10 : List Cond := u_ws RX1 TX1 2
theorem nmX1 : ∀ a, a < 2 → ∀ b, b < 2 → a ≠ b → (TX1 a).2.1 ≠ (TX1 b).2.1 := by decide +kernel
theorem tyX1_ok : ∀ k, k < 2 → parseFieldDescriptor (TX1 k).2.2.1 = some (tyX1 k) := by decide +kernel
abbrev cX1_init : ByteArray := prog_3_method_1_code
def yX1_init : MethodName := ⟨RX1, "<init>", "()V"⟩
abbrev cX1_wordOf : ByteArray := prog_3_method_2_code
def yX1_wordOf : MethodName := ⟨RX1, "wordOf", "(IZ)I"⟩
abbrev cX1_valueOf : ByteArray := prog_3_method_3_code
def yX1_valueOf : MethodName := ⟨RX1, "valueOf", "(IZ)I"⟩
def RX2 : String := "StoragePath$Command"
def TX2 : u_T := fun k => match k with
  | 0 => ("StoragePath$Command", "tag", "I", true)
  | 1 => ("StoragePath$Command", "numbers", "[I", true)
  | 2 => ("StoragePath$Command", "stage", "I", false)
  | 3 => ("StoragePath$Command", "kind", "I", false)
  | 4 => ("StoragePath$Command", "first", "I", false)
  | 5 => ("StoragePath$Command", "many", "I", false)
  | 6 => ("StoragePath$Command", "turn", "I", false)
  | _ => ("StoragePath$Command", "outcome", "I", false)
def tyX2 : Nat → FieldType := fun k => match k with
  | 0 => .int
  | 1 => .array .int
  | 2 => .int
  | 3 => .int
  | 4 => .int
  | 5 => .int
  | 6 => .int
  | _ => .int
abbrev wsX20 : List Cond := u_ws RX2 TX2 8
theorem nmX2 : ∀ a, a < 8 → ∀ b, b < 8 → a ≠ b → (TX2 a).2.1 ≠ (TX2 b).2.1 := by decide +kernel
theorem tyX2_ok : ∀ k, k < 8 → parseFieldDescriptor (TX2 k).2.2.1 = some (tyX2 k) := by decide +kernel
abbrev cX2_init : ByteArray := prog_4_method_1_code
def yX2_init : MethodName := ⟨RX2, "<init>", "(I)V"⟩
abbrev cX2_begin : ByteArray := prog_4_method_2_code
def yX2_begin : MethodName := ⟨RX2, "begin", "(IIII)V"⟩
abbrev cX2_end : ByteArray := prog_4_method_3_code
def yX2_end : MethodName := ⟨RX2, "end", "(I)V"⟩
abbrev cX2_lastSector : ByteArray := prog_4_method_4_code
def yX2_lastSector : MethodName := ⟨RX2, "lastSector", "()I"⟩
abbrev cX2_numberAt : ByteArray := prog_4_method_5_code
def yX2_numberAt : MethodName := ⟨RX2, "numberAt", "(I)I"⟩
abbrev cX2_setNumber : ByteArray := prog_4_method_6_code
def yX2_setNumber : MethodName := ⟨RX2, "setNumber", "(II)V"⟩
abbrev cX2_setNumbers : ByteArray := prog_4_method_7_code
def yX2_setNumbers : MethodName := ⟨RX2, "setNumbers", "(IIII)V"⟩
abbrev cX2_copyNumbers : ByteArray := prog_4_method_8_code
def yX2_copyNumbers : MethodName := ⟨RX2, "copyNumbers", "([I)V"⟩
def RX3 : String := "StoragePath$Disk"
def TX3 : u_T := fun k => match k with
  | 0 => ("StoragePath$Disk", "numbers", "[I", true)
  | 1 => ("StoragePath$Disk", "cacheSectors", "[I", true)
  | 2 => ("StoragePath$Disk", "cacheNumbers", "[I", true)
  | _ => ("StoragePath$Disk", "cacheUsed", "I", false)
def tyX3 : Nat → FieldType := fun k => match k with
  | 0 => .array .int
  | 1 => .array .int
  | 2 => .array .int
  | _ => .int
abbrev wsX30 : List Cond := u_ws RX3 TX3 4
theorem nmX3 : ∀ a, a < 4 → ∀ b, b < 4 → a ≠ b → (TX3 a).2.1 ≠ (TX3 b).2.1 := by decide +kernel
theorem tyX3_ok : ∀ k, k < 4 → parseFieldDescriptor (TX3 k).2.2.1 = some (tyX3 k) := by decide +kernel
abbrev cX3_init : ByteArray := prog_5_method_1_code
def yX3_init : MethodName := ⟨RX3, "<init>", "()V"⟩
abbrev cX3_numberOnDisk : ByteArray := prog_5_method_2_code
def yX3_numberOnDisk : MethodName := ⟨RX3, "numberOnDisk", "(I)I"⟩
abbrev cX3_numberAsRead : ByteArray := prog_5_method_3_code
def yX3_numberAsRead : MethodName := ⟨RX3, "numberAsRead", "(I)I"⟩
abbrev cX3_sectorAtPlace : ByteArray := prog_5_method_4_code
def yX3_sectorAtPlace : MethodName := ⟨RX3, "sectorAtPlace", "(I)I"⟩
abbrev cX3_putInCache : ByteArray := prog_5_method_5_code
def yX3_putInCache : MethodName := ⟨RX3, "putInCache", "(II)V"⟩
abbrev cX3_putThrough : ByteArray := prog_5_method_6_code
def yX3_putThrough : MethodName := ⟨RX3, "putThrough", "(II)V"⟩
abbrev cX3_layAll : ByteArray := prog_5_method_7_code
def yX3_layAll : MethodName := ⟨RX3, "layAll", "()V"⟩
abbrev cX3_dropCache : ByteArray := prog_5_method_8_code
def yX3_dropCache : MethodName := ⟨RX3, "dropCache", "()I"⟩
abbrev cX3_placeInCache : ByteArray := prog_5_method_9_code
def yX3_placeInCache : MethodName := ⟨RX3, "placeInCache", "(I)I"⟩
abbrev cX3_removeFromCache : ByteArray := prog_5_method_10_code
def yX3_removeFromCache : MethodName := ⟨RX3, "removeFromCache", "(I)V"⟩
abbrev cX3_putOnDisk : ByteArray := prog_5_method_11_code
def yX3_putOnDisk : MethodName := ⟨RX3, "putOnDisk", "(II)V"⟩
def RX4 : String := "StoragePath$Link"
def TX4 : u_T := fun k => match k with
  | 0 => ("StoragePath$Link", "code", "LStoragePath$Code;", true)
  | 1 => ("StoragePath$Link", "scramble", "[I", true)
  | 2 => ("StoragePath$Link", "body", "LStoragePath$Bytes;", true)
  | 3 => ("StoragePath$Link", "received", "LStoragePath$Bytes;", true)
  | 4 => ("StoragePath$Link", "bits", "[I", true)
  | 5 => ("StoragePath$Link", "bitsUsed", "I", false)
  | 6 => ("StoragePath$Link", "faultFrames", "[I", true)
  | 7 => ("StoragePath$Link", "faultBits", "[I", true)
  | 8 => ("StoragePath$Link", "faults", "I", false)
  | 9 => ("StoragePath$Link", "findings", "[I", true)
  | 10 => ("StoragePath$Link", "sent", "I", false)
  | 11 => ("StoragePath$Link", "sentWithFinding", "I", false)
  | _ => ("StoragePath$Link", "failed", "I", false)
def tyX4 : Nat → FieldType := fun k => match k with
  | 0 => .object "StoragePath$Code"
  | 1 => .array .int
  | 2 => .object "StoragePath$Bytes"
  | 3 => .object "StoragePath$Bytes"
  | 4 => .array .int
  | 5 => .int
  | 6 => .array .int
  | 7 => .array .int
  | 8 => .int
  | 9 => .array .int
  | 10 => .int
  | 11 => .int
  | _ => .int
abbrev wsX40 : List Cond := u_ws RX4 TX4 13
theorem nmX4 : ∀ a, a < 13 → ∀ b, b < 13 → a ≠ b → (TX4 a).2.1 ≠ (TX4 b).2.1 := by decide +kernel
theorem tyX4_ok : ∀ k, k < 13 → parseFieldDescriptor (TX4 k).2.2.1 = some (tyX4 k) := by decide +kernel
abbrev cX4_init : ByteArray := prog_6_method_1_code
def yX4_init : MethodName := ⟨RX4, "<init>", "(LStoragePath$Code;)V"⟩
abbrev cX4_bitAt : ByteArray := prog_6_method_2_code
def yX4_bitAt : MethodName := ⟨RX4, "bitAt", "(I)I"⟩
abbrev cX4_findingFromEnd : ByteArray := prog_6_method_3_code
def yX4_findingFromEnd : MethodName := ⟨RX4, "findingFromEnd", "(I)I"⟩
abbrev cX4_addFault : ByteArray := prog_6_method_4_code
def yX4_addFault : MethodName := ⟨RX4, "addFault", "(II)I"⟩
abbrev cX4_dropFaults : ByteArray := prog_6_method_5_code
def yX4_dropFaults : MethodName := ⟨RX4, "dropFaults", "()I"⟩
abbrev cX4_deliver : ByteArray := prog_6_method_6_code
def yX4_deliver : MethodName := ⟨RX4, "deliver", "(LStoragePath$Bytes;)Z"⟩
abbrev cX4_sendOnce : ByteArray := prog_6_method_7_code
def yX4_sendOnce : MethodName := ⟨RX4, "sendOnce", "(LStoragePath$Bytes;)I"⟩
abbrev cX4_placeOfFinding : ByteArray := prog_6_method_8_code
def yX4_placeOfFinding : MethodName := ⟨RX4, "placeOfFinding", "(I)I"⟩
abbrev cX4_layOnWire : ByteArray := prog_6_method_9_code
def yX4_layOnWire : MethodName := ⟨RX4, "layOnWire", "()V"⟩
abbrev cX4_scrambled : ByteArray := prog_6_method_10_code
def yX4_scrambled : MethodName := ⟨RX4, "scrambled", "(II)I"⟩
abbrev cX4_putBits : ByteArray := prog_6_method_11_code
def yX4_putBits : MethodName := ⟨RX4, "putBits", "(I)V"⟩
abbrev cX4_turnFaultyBits : ByteArray := prog_6_method_12_code
def yX4_turnFaultyBits : MethodName := ⟨RX4, "turnFaultyBits", "()V"⟩
abbrev cX4_wordAt : ByteArray := prog_6_method_13_code
def yX4_wordAt : MethodName := ⟨RX4, "wordAt", "(I)I"⟩
abbrev cX4_receive : ByteArray := prog_6_method_14_code
def yX4_receive : MethodName := ⟨RX4, "receive", "()I"⟩
abbrev cX4_isMisplaced : ByteArray := prog_6_method_15_code
def yX4_isMisplaced : MethodName := ⟨RX4, "isMisplaced", "(III)Z"⟩
def RX5 : String := "StoragePath"
def TX5 : u_T := fun k => match k with
  | 0 => ("StoragePath", "code", "LStoragePath$Code;", true)
  | 1 => ("StoragePath", "link", "LStoragePath$Link;", true)
  | 2 => ("StoragePath", "disk", "LStoragePath$Disk;", true)
  | 3 => ("StoragePath", "drafted", "LStoragePath$Bytes;", true)
  | 4 => ("StoragePath", "frame", "LStoragePath$Bytes;", true)
  | 5 => ("StoragePath", "commands", "[LStoragePath$Command;", true)
  | 6 => ("StoragePath", "toldNumbers", "[I", true)
  | 7 => ("StoragePath", "wayNow", "I", false)
  | 8 => ("StoragePath", "lastSectorTaken", "I", false)
  | _ => ("StoragePath", "issuedSoFar", "I", false)
def tyX5 : Nat → FieldType := fun k => match k with
  | 0 => .object "StoragePath$Code"
  | 1 => .object "StoragePath$Link"
  | 2 => .object "StoragePath$Disk"
  | 3 => .object "StoragePath$Bytes"
  | 4 => .object "StoragePath$Bytes"
  | 5 => .array (.object "StoragePath$Command")
  | 6 => .array .int
  | 7 => .int
  | 8 => .int
  | _ => .int
abbrev wsX50 : List Cond := u_ws RX5 TX5 10
theorem nmX5 : ∀ a, a < 10 → ∀ b, b < 10 → a ≠ b → (TX5 a).2.1 ≠ (TX5 b).2.1 := by decide +kernel
theorem tyX5_ok : ∀ k, k < 10 → parseFieldDescriptor (TX5 k).2.2.1 = some (tyX5 k) := by decide +kernel
abbrev cX5_init : ByteArray := prog_1_method_1_code
def yX5_init : MethodName := ⟨RX5, "<init>", "()V"⟩
abbrev cX5_encode : ByteArray := prog_1_method_2_code
def yX5_encode : MethodName := ⟨RX5, "encode", "(IZ)I"⟩
abbrev cX5_decode : ByteArray := prog_1_method_3_code
def yX5_decode : MethodName := ⟨RX5, "decode", "(IZ)I"⟩
abbrev cX5_draft : ByteArray := prog_1_method_4_code
def yX5_draft : MethodName := ⟨RX5, "draft", "(I)I"⟩
abbrev cX5_check : ByteArray := prog_1_method_5_code
def yX5_check : MethodName := ⟨RX5, "check", "()I"⟩
abbrev cX5_test : ByteArray := prog_1_method_6_code
def yX5_test : MethodName := ⟨RX5, "test", "()I"⟩
abbrev cX5_wire : ByteArray := prog_1_method_7_code
def yX5_wire : MethodName := ⟨RX5, "wire", "(I)I"⟩
abbrev cX5_finding : ByteArray := prog_1_method_8_code
def yX5_finding : MethodName := ⟨RX5, "finding", "(I)I"⟩
abbrev cX5_plan : ByteArray := prog_1_method_9_code
def yX5_plan : MethodName := ⟨RX5, "plan", "(II)I"⟩
abbrev cX5_calm : ByteArray := prog_1_method_10_code
def yX5_calm : MethodName := ⟨RX5, "calm", "()I"⟩
abbrev cX5_read : ByteArray := prog_1_method_11_code
def yX5_read : MethodName := ⟨RX5, "read", "(III)I"⟩
abbrev cX5_write : ByteArray := prog_1_method_12_code
def yX5_write : MethodName := ⟨RX5, "write", "(IIIZIIII)I"⟩
abbrev cX5_flush : ByteArray := prog_1_method_13_code
def yX5_flush : MethodName := ⟨RX5, "flush", "(I)I"⟩
abbrev cX5_step : ByteArray := prog_1_method_14_code
def yX5_step : MethodName := ⟨RX5, "step", "()I"⟩
abbrev cX5_drain : ByteArray := prog_1_method_15_code
def yX5_drain : MethodName := ⟨RX5, "drain", "()I"⟩
abbrev cX5_result : ByteArray := prog_1_method_16_code
def yX5_result : MethodName := ⟨RX5, "result", "(I)I"⟩
abbrev cX5_got : ByteArray := prog_1_method_17_code
def yX5_got : MethodName := ⟨RX5, "got", "(I)I"⟩
abbrev cX5_way : ByteArray := prog_1_method_18_code
def yX5_way : MethodName := ⟨RX5, "way", "(I)I"⟩
abbrev cX5_cut : ByteArray := prog_1_method_19_code
def yX5_cut : MethodName := ⟨RX5, "cut", "()I"⟩
abbrev cX5_sector : ByteArray := prog_1_method_20_code
def yX5_sector : MethodName := ⟨RX5, "sector", "(IZ)I"⟩
abbrev cX5_cached : ByteArray := prog_1_method_21_code
def yX5_cached : MethodName := ⟨RX5, "cached", "(I)I"⟩
abbrev cX5_state : ByteArray := prog_1_method_22_code
def yX5_state : MethodName := ⟨RX5, "state", "(I)I"⟩
abbrev cX5_count : ByteArray := prog_1_method_23_code
def yX5_count : MethodName := ⟨RX5, "count", "(I)I"⟩
abbrev cX5_commandOf : ByteArray := prog_1_method_24_code
def yX5_commandOf : MethodName := ⟨RX5, "commandOf", "(I)LStoragePath$Command;"⟩
abbrev cX5_commandsAt : ByteArray := prog_1_method_25_code
def yX5_commandsAt : MethodName := ⟨RX5, "commandsAt", "(I)I"⟩
abbrev cX5_issue : ByteArray := prog_1_method_26_code
def yX5_issue : MethodName := ⟨RX5, "issue", "(IIII)I"⟩
abbrev cX5_nextCommand : ByteArray := prog_1_method_27_code
def yX5_nextCommand : MethodName := ⟨RX5, "nextCommand", "()LStoragePath$Command;"⟩
abbrev cX5_goesAhead : ByteArray := prog_1_method_28_code
def yX5_goesAhead : MethodName := ⟨RX5, "goesAhead", "(LStoragePath$Command;LStoragePath$Command;)Z"⟩
abbrev cX5_distance : ByteArray := prog_1_method_29_code
def yX5_distance : MethodName := ⟨RX5, "distance", "(LStoragePath$Command;)I"⟩
abbrev cX5_carryOut : ByteArray := prog_1_method_30_code
def yX5_carryOut : MethodName := ⟨RX5, "carryOut", "(LStoragePath$Command;)I"⟩
abbrev cX5_keepNumber : ByteArray := prog_1_method_31_code
def yX5_keepNumber : MethodName := ⟨RX5, "keepNumber", "(LStoragePath$Command;II)V"⟩
def RX6 : String := "StoragePathModel"
def TX6 : u_T := fun k => match k with
  | 0 => ("StoragePathModel", "evenWord", "[I", true)
  | 1 => ("StoragePathModel", "evenNumber", "[I", true)
  | 2 => ("StoragePathModel", "unevenWord", "[I", true)
  | 3 => ("StoragePathModel", "draftSize", "I", false)
  | 4 => ("StoragePathModel", "draft", "[I", true)
  | 5 => ("StoragePathModel", "faults", "I", false)
  | 6 => ("StoragePathModel", "faultFrame", "[I", true)
  | 7 => ("StoragePathModel", "faultBit", "[I", true)
  | 8 => ("StoragePathModel", "frames", "I", false)
  | 9 => ("StoragePathModel", "wrong", "I", false)
  | 10 => ("StoragePathModel", "failed", "I", false)
  | 11 => ("StoragePathModel", "findings", "[I", true)
  | 12 => ("StoragePathModel", "wireSize", "I", false)
  | 13 => ("StoragePathModel", "wire", "[I", true)
  | 14 => ("StoragePathModel", "size", "I", false)
  | 15 => ("StoragePathModel", "payload", "[I", true)
  | 16 => ("StoragePathModel", "got", "[I", true)
  | 17 => ("StoragePathModel", "disk", "[I", true)
  | 18 => ("StoragePathModel", "cacheSize", "I", false)
  | 19 => ("StoragePathModel", "cacheSector", "[I", true)
  | 20 => ("StoragePathModel", "cacheValue", "[I", true)
  | 21 => ("StoragePathModel", "state", "[I", true)
  | 22 => ("StoragePathModel", "kind", "[I", true)
  | 23 => ("StoragePathModel", "first", "[I", true)
  | 24 => ("StoragePathModel", "many", "[I", true)
  | 25 => ("StoragePathModel", "value", "[I", true)
  | 26 => ("StoragePathModel", "since", "[I", true)
  | 27 => ("StoragePathModel", "outcome", "[I", true)
  | 28 => ("StoragePathModel", "issues", "I", false)
  | 29 => ("StoragePathModel", "way", "I", false)
  | 30 => ("StoragePathModel", "last", "I", false)
  | 31 => ("StoragePathModel", "readMany", "I", false)
  | 32 => ("StoragePathModel", "read", "[I", true)
  | 33 => ("StoragePathModel", "scramble", "I", false)
  | _ => ("StoragePathModel", "isExcess", "Z", false)
def tyX6 : Nat → FieldType := fun k => match k with
  | 0 => .array .int
  | 1 => .array .int
  | 2 => .array .int
  | 3 => .int
  | 4 => .array .int
  | 5 => .int
  | 6 => .array .int
  | 7 => .array .int
  | 8 => .int
  | 9 => .int
  | 10 => .int
  | 11 => .array .int
  | 12 => .int
  | 13 => .array .int
  | 14 => .int
  | 15 => .array .int
  | 16 => .array .int
  | 17 => .array .int
  | 18 => .int
  | 19 => .array .int
  | 20 => .array .int
  | 21 => .array .int
  | 22 => .array .int
  | 23 => .array .int
  | 24 => .array .int
  | 25 => .array .int
  | 26 => .array .int
  | 27 => .array .int
  | 28 => .int
  | 29 => .int
  | 30 => .int
  | 31 => .int
  | 32 => .array .int
  | 33 => .int
  | _ => .boolean
abbrev wsX60 : List Cond := u_ws RX6 TX6 35
theorem nmX6 : ∀ a, a < 35 → ∀ b, b < 35 → a ≠ b → (TX6 a).2.1 ≠ (TX6 b).2.1 := by decide +kernel
theorem tyX6_ok : ∀ k, k < 35 → parseFieldDescriptor (TX6 k).2.2.1 = some (tyX6 k) := by decide +kernel
abbrev cX6_init : ByteArray := prog_8_method_1_code
def yX6_init : MethodName := ⟨RX6, "<init>", "()V"⟩
abbrev cX6_ones : ByteArray := prog_8_method_2_code
def yX6_ones : MethodName := ⟨RX6, "ones", "(I)I"⟩
abbrev cX6_in : ByteArray := prog_8_method_3_code
def yX6_in : MethodName := ⟨RX6, "in", "(III)Z"⟩
abbrev cX6_isEven : ByteArray := prog_8_method_4_code
def yX6_isEven : MethodName := ⟨RX6, "isEven", "(I)Z"⟩
abbrev cX6_wordOf : ByteArray := prog_8_method_5_code
def yX6_wordOf : MethodName := ⟨RX6, "wordOf", "(IZ)I"⟩
abbrev cX6_unevenOf : ByteArray := prog_8_method_6_code
def yX6_unevenOf : MethodName := ⟨RX6, "unevenOf", "(IZ)I"⟩
abbrev cX6_encode : ByteArray := prog_8_method_7_code
def yX6_encode : MethodName := ⟨RX6, "encode", "(IZ)I"⟩
abbrev cX6_valueOf : ByteArray := prog_8_method_8_code
def yX6_valueOf : MethodName := ⟨RX6, "valueOf", "(IZ)I"⟩
abbrev cX6_decode : ByteArray := prog_8_method_9_code
def yX6_decode : MethodName := ⟨RX6, "decode", "(IZ)I"⟩
abbrev cX6_draft : ByteArray := prog_8_method_10_code
def yX6_draft : MethodName := ⟨RX6, "draft", "(I)I"⟩
abbrev cX6_checkByte : ByteArray := prog_8_method_11_code
def yX6_checkByte : MethodName := ⟨RX6, "checkByte", "(II)I"⟩
abbrev cX6_checkOf : ByteArray := prog_8_method_12_code
def yX6_checkOf : MethodName := ⟨RX6, "checkOf", "([III)I"⟩
abbrev cX6_check : ByteArray := prog_8_method_13_code
def yX6_check : MethodName := ⟨RX6, "check", "()I"⟩
abbrev cX6_nextScramble : ByteArray := prog_8_method_14_code
def yX6_nextScramble : MethodName := ⟨RX6, "nextScramble", "()I"⟩
abbrev cX6_wireWord : ByteArray := prog_8_method_15_code
def yX6_wireWord : MethodName := ⟨RX6, "wireWord", "(I)V"⟩
abbrev cX6_layWire : ByteArray := prog_8_method_16_code
def yX6_layWire : MethodName := ⟨RX6, "layWire", "()V"⟩
abbrev cX6_findWord : ByteArray := prog_8_method_17_code
def yX6_findWord : MethodName := ⟨RX6, "findWord", "(II)I"⟩
abbrev cX6_receive : ByteArray := prog_8_method_18_code
def yX6_receive : MethodName := ⟨RX6, "receive", "()I"⟩
abbrev cX6_sendOnce : ByteArray := prog_8_method_19_code
def yX6_sendOnce : MethodName := ⟨RX6, "sendOnce", "()I"⟩
abbrev cX6_send : ByteArray := prog_8_method_20_code
def yX6_send : MethodName := ⟨RX6, "send", "()Z"⟩
abbrev cX6_test : ByteArray := prog_8_method_21_code
def yX6_test : MethodName := ⟨RX6, "test", "()I"⟩
abbrev cX6_wire : ByteArray := prog_8_method_22_code
def yX6_wire : MethodName := ⟨RX6, "wire", "(I)I"⟩
abbrev cX6_finding : ByteArray := prog_8_method_23_code
def yX6_finding : MethodName := ⟨RX6, "finding", "(I)I"⟩
abbrev cX6_plan : ByteArray := prog_8_method_24_code
def yX6_plan : MethodName := ⟨RX6, "plan", "(II)I"⟩
abbrev cX6_calm : ByteArray := prog_8_method_25_code
def yX6_calm : MethodName := ⟨RX6, "calm", "()I"⟩
abbrev cX6_isTag : ByteArray := prog_8_method_26_code
def yX6_isTag : MethodName := ⟨RX6, "isTag", "(I)Z"⟩
abbrev cX6_issue : ByteArray := prog_8_method_27_code
def yX6_issue : MethodName := ⟨RX6, "issue", "(IIII)I"⟩
abbrev cX6_against : ByteArray := prog_8_method_28_code
def yX6_against : MethodName := ⟨RX6, "against", "(III)I"⟩
abbrev cX6_read : ByteArray := prog_8_method_29_code
def yX6_read : MethodName := ⟨RX6, "read", "(III)I"⟩
abbrev cX6_write : ByteArray := prog_8_method_30_code
def yX6_write : MethodName := ⟨RX6, "write", "(IIIZIIII)I"⟩
abbrev cX6_flush : ByteArray := prog_8_method_31_code
def yX6_flush : MethodName := ⟨RX6, "flush", "(I)I"⟩
abbrev cX6_placeOf : ByteArray := prog_8_method_32_code
def yX6_placeOf : MethodName := ⟨RX6, "placeOf", "(I)I"⟩
abbrev cX6_leave : ByteArray := prog_8_method_33_code
def yX6_leave : MethodName := ⟨RX6, "leave", "(I)V"⟩
abbrev cX6_lay : ByteArray := prog_8_method_34_code
def yX6_lay : MethodName := ⟨RX6, "lay", "(I)V"⟩
abbrev cX6_reads : ByteArray := prog_8_method_35_code
def yX6_reads : MethodName := ⟨RX6, "reads", "(I)I"⟩
abbrev cX6_written : ByteArray := prog_8_method_36_code
def yX6_written : MethodName := ⟨RX6, "written", "(II)V"⟩
abbrev cX6_through : ByteArray := prog_8_method_37_code
def yX6_through : MethodName := ⟨RX6, "through", "(II)V"⟩
abbrev cX6_three : ByteArray := prog_8_method_38_code
def yX6_three : MethodName := ⟨RX6, "three", "(III)V"⟩
abbrev cX6_number : ByteArray := prog_8_method_39_code
def yX6_number : MethodName := ⟨RX6, "number", "(II)V"⟩
abbrev cX6_lastOf : ByteArray := prog_8_method_40_code
def yX6_lastOf : MethodName := ⟨RX6, "lastOf", "(III)I"⟩
abbrev cX6_done : ByteArray := prog_8_method_41_code
def yX6_done : MethodName := ⟨RX6, "done", "(I)I"⟩
abbrev cX6_isAhead : ByteArray := prog_8_method_42_code
def yX6_isAhead : MethodName := ⟨RX6, "isAhead", "(II)Z"⟩
abbrev cX6_next : ByteArray := prog_8_method_43_code
def yX6_next : MethodName := ⟨RX6, "next", "()I"⟩
abbrev cX6_step : ByteArray := prog_8_method_44_code
def yX6_step : MethodName := ⟨RX6, "step", "()I"⟩
abbrev cX6_drain : ByteArray := prog_8_method_45_code
def yX6_drain : MethodName := ⟨RX6, "drain", "()I"⟩
abbrev cX6_result : ByteArray := prog_8_method_46_code
def yX6_result : MethodName := ⟨RX6, "result", "(I)I"⟩
abbrev cX6_got : ByteArray := prog_8_method_47_code
def yX6_got : MethodName := ⟨RX6, "got", "(I)I"⟩
abbrev cX6_way : ByteArray := prog_8_method_48_code
def yX6_way : MethodName := ⟨RX6, "way", "(I)I"⟩
abbrev cX6_cut : ByteArray := prog_8_method_49_code
def yX6_cut : MethodName := ⟨RX6, "cut", "()I"⟩
abbrev cX6_sector : ByteArray := prog_8_method_50_code
def yX6_sector : MethodName := ⟨RX6, "sector", "(IZ)I"⟩
abbrev cX6_cached : ByteArray := prog_8_method_51_code
def yX6_cached : MethodName := ⟨RX6, "cached", "(I)I"⟩
abbrev cX6_state : ByteArray := prog_8_method_52_code
def yX6_state : MethodName := ⟨RX6, "state", "(I)I"⟩
abbrev cX6_tags : ByteArray := prog_8_method_53_code
def yX6_tags : MethodName := ⟨RX6, "tags", "(I)I"⟩
abbrev cX6_count : ByteArray := prog_8_method_54_code
def yX6_count : MethodName := ⟨RX6, "count", "(I)I"⟩
def RJ6 : String := "java/lang/Integer"
def TJ6 : u_T := fun k => match k with
  | _ => ("", "", "", false)
def tyJ6 : Nat → FieldType := fun k => match k with
  | _ => .int
abbrev wsJ60 : List Cond := u_ws RJ6 TJ6 0
theorem nmJ6 : ∀ a, a < 0 → ∀ b, b < 0 → a ≠ b → (TJ6 a).2.1 ≠ (TJ6 b).2.1 := by decide +kernel
theorem tyJ6_ok : ∀ k, k < 0 → parseFieldDescriptor (TJ6 k).2.2.1 = some (tyJ6 k) := by decide +kernel
abbrev cJ6_bitCount_0f7a4 : ByteArray := prog_9_method_49_code
def yJ6_bitCount_0f7a4 : MethodName := ⟨RJ6, "bitCount", "(I)I"⟩
def RL : String := "StoragePathLaw"
abbrev cL_law : ByteArray := code
def yL_law : MethodName := ⟨RL, "law", "([I)Z"⟩
theorem dX0_init_0 : decode cX0_init 0 = .ok (.aload_n 0, 1) := by decide +kernel
theorem dX0_init_1 : decode cX0_init 1 = .ok (.invokespecial 3, 3) := by decide +kernel
theorem dX0_init_4 : decode cX0_init 4 = .ok (.aload_n 0, 1) := by decide +kernel
theorem dX0_init_5 : decode cX0_init 5 = .ok (.bipush 16, 2) := by decide +kernel
theorem dX0_init_7 : decode cX0_init 7 = .ok (.newarray .int, 2) := by decide +kernel
theorem dX0_init_9 : decode cX0_init 9 = .ok (.putfield 9, 3) := by decide +kernel
theorem dX0_init_12 : decode cX0_init 12 = .ok (.return_, 1) := by decide +kernel
theorem dX0_size_0 : decode cX0_size 0 = .ok (.aload_n 0, 1) := by decide +kernel
theorem dX0_size_1 : decode cX0_size 1 = .ok (.getfield 15, 3) := by decide +kernel
theorem dX0_size_4 : decode cX0_size 4 = .ok (.ireturn, 1) := by decide +kernel
theorem dX0_at_0 : decode cX0_at 0 = .ok (.iload_n 1, 1) := by decide +kernel
theorem dX0_at_1 : decode cX0_at 1 = .ok (.ifCond .lt 20, 3) := by decide +kernel
theorem dX0_at_4 : decode cX0_at 4 = .ok (.iload_n 1, 1) := by decide +kernel
theorem dX0_at_5 : decode cX0_at 5 = .ok (.aload_n 0, 1) := by decide +kernel
theorem dX0_at_6 : decode cX0_at 6 = .ok (.getfield 15, 3) := by decide +kernel
theorem dX0_at_9 : decode cX0_at 9 = .ok (.if_icmp .ge 12, 3) := by decide +kernel
theorem dX0_at_12 : decode cX0_at 12 = .ok (.aload_n 0, 1) := by decide +kernel
theorem dX0_at_13 : decode cX0_at 13 = .ok (.getfield 9, 3) := by decide +kernel
theorem dX0_at_16 : decode cX0_at 16 = .ok (.iload_n 1, 1) := by decide +kernel
theorem dX0_at_17 : decode cX0_at 17 = .ok (.iaload, 1) := by decide +kernel
theorem dX0_at_18 : decode cX0_at 18 = .ok (.goto 4, 3) := by decide +kernel
theorem dX0_at_21 : decode cX0_at 21 = .ok (.iconst 0, 1) := by decide +kernel
theorem dX0_at_22 : decode cX0_at 22 = .ok (.ireturn, 1) := by decide +kernel
theorem dX0_clear_0 : decode cX0_clear 0 = .ok (.aload_n 0, 1) := by decide +kernel
theorem dX0_clear_1 : decode cX0_clear 1 = .ok (.iconst 0, 1) := by decide +kernel
theorem dX0_clear_2 : decode cX0_clear 2 = .ok (.putfield 15, 3) := by decide +kernel
theorem dX0_clear_5 : decode cX0_clear 5 = .ok (.return_, 1) := by decide +kernel
theorem dX0_add_0 : decode cX0_add 0 = .ok (.aload_n 0, 1) := by decide +kernel
theorem dX0_add_1 : decode cX0_add 1 = .ok (.getfield 15, 3) := by decide +kernel
theorem dX0_add_4 : decode cX0_add 4 = .ok (.aload_n 0, 1) := by decide +kernel
theorem dX0_add_5 : decode cX0_add 5 = .ok (.getfield 9, 3) := by decide +kernel
theorem dX0_add_8 : decode cX0_add 8 = .ok (.arraylength, 1) := by decide +kernel
theorem dX0_add_9 : decode cX0_add 9 = .ok (.if_icmp .ge 27, 3) := by decide +kernel
theorem dX0_add_12 : decode cX0_add 12 = .ok (.aload_n 0, 1) := by decide +kernel
theorem dX0_add_13 : decode cX0_add 13 = .ok (.getfield 9, 3) := by decide +kernel
theorem dX0_add_16 : decode cX0_add 16 = .ok (.aload_n 0, 1) := by decide +kernel
theorem dX0_add_17 : decode cX0_add 17 = .ok (.getfield 15, 3) := by decide +kernel
theorem dX0_add_20 : decode cX0_add 20 = .ok (.iload_n 1, 1) := by decide +kernel
theorem dX0_add_21 : decode cX0_add 21 = .ok (.sipush 255, 3) := by decide +kernel
theorem dX0_add_24 : decode cX0_add 24 = .ok (.iand, 1) := by decide +kernel
theorem dX0_add_25 : decode cX0_add 25 = .ok (.iastore, 1) := by decide +kernel
theorem dX0_add_26 : decode cX0_add 26 = .ok (.aload_n 0, 1) := by decide +kernel
theorem dX0_add_27 : decode cX0_add 27 = .ok (.dup, 1) := by decide +kernel
theorem dX0_add_28 : decode cX0_add 28 = .ok (.getfield 15, 3) := by decide +kernel
theorem dX0_add_31 : decode cX0_add 31 = .ok (.iconst 1, 1) := by decide +kernel
theorem dX0_add_32 : decode cX0_add 32 = .ok (.iadd, 1) := by decide +kernel
theorem dX0_add_33 : decode cX0_add 33 = .ok (.putfield 15, 3) := by decide +kernel
theorem dX0_add_36 : decode cX0_add 36 = .ok (.return_, 1) := by decide +kernel
theorem dX0_addNumber_0 : decode cX0_addNumber 0 = .ok (.bipush 24, 2) := by decide +kernel
theorem dX0_addNumber_2 : decode cX0_addNumber 2 = .ok (.istore_n 2, 1) := by decide +kernel
theorem dX0_addNumber_3 : decode cX0_addNumber 3 = .ok (.iload_n 2, 1) := by decide +kernel
theorem dX0_addNumber_4 : decode cX0_addNumber 4 = .ok (.ifCond .lt 16, 3) := by decide +kernel
theorem dX0_addNumber_7 : decode cX0_addNumber 7 = .ok (.aload_n 0, 1) := by decide +kernel
theorem dX0_addNumber_8 : decode cX0_addNumber 8 = .ok (.iload_n 1, 1) := by decide +kernel
theorem dX0_addNumber_9 : decode cX0_addNumber 9 = .ok (.iload_n 2, 1) := by decide +kernel
theorem dX0_addNumber_10 : decode cX0_addNumber 10 = .ok (.iushr, 1) := by decide +kernel
theorem dX0_addNumber_11 : decode cX0_addNumber 11 = .ok (.invokevirtual 19, 3) := by decide +kernel
theorem dX0_addNumber_14 : decode cX0_addNumber 14 = .ok (.iinc 2 (-8), 3) := by decide +kernel
theorem dX0_addNumber_17 : decode cX0_addNumber 17 = .ok (.goto (-14), 3) := by decide +kernel
theorem dX0_addNumber_20 : decode cX0_addNumber 20 = .ok (.return_, 1) := by decide +kernel
theorem dX0_numberAt_0 : decode cX0_numberAt 0 = .ok (.iload_n 1, 1) := by decide +kernel
theorem dX0_numberAt_1 : decode cX0_numberAt 1 = .ok (.ifCond .lt 13, 3) := by decide +kernel
theorem dX0_numberAt_4 : decode cX0_numberAt 4 = .ok (.iload_n 1, 1) := by decide +kernel
theorem dX0_numberAt_5 : decode cX0_numberAt 5 = .ok (.aload_n 0, 1) := by decide +kernel
theorem dX0_numberAt_6 : decode cX0_numberAt 6 = .ok (.getfield 15, 3) := by decide +kernel
theorem dX0_numberAt_9 : decode cX0_numberAt 9 = .ok (.iconst 4, 1) := by decide +kernel
theorem dX0_numberAt_10 : decode cX0_numberAt 10 = .ok (.isub, 1) := by decide +kernel
theorem dX0_numberAt_11 : decode cX0_numberAt 11 = .ok (.if_icmp .le 5, 3) := by decide +kernel
theorem dX0_numberAt_14 : decode cX0_numberAt 14 = .ok (.iconst 0, 1) := by decide +kernel
theorem dX0_numberAt_15 : decode cX0_numberAt 15 = .ok (.ireturn, 1) := by decide +kernel
theorem dX0_numberAt_16 : decode cX0_numberAt 16 = .ok (.iconst 0, 1) := by decide +kernel
theorem dX0_numberAt_17 : decode cX0_numberAt 17 = .ok (.istore_n 2, 1) := by decide +kernel
theorem dX0_numberAt_18 : decode cX0_numberAt 18 = .ok (.iload_n 1, 1) := by decide +kernel
theorem dX0_numberAt_19 : decode cX0_numberAt 19 = .ok (.istore_n 3, 1) := by decide +kernel
theorem dX0_numberAt_20 : decode cX0_numberAt 20 = .ok (.iload_n 3, 1) := by decide +kernel
theorem dX0_numberAt_21 : decode cX0_numberAt 21 = .ok (.iload_n 1, 1) := by decide +kernel
theorem dX0_numberAt_22 : decode cX0_numberAt 22 = .ok (.iconst 4, 1) := by decide +kernel
theorem dX0_numberAt_23 : decode cX0_numberAt 23 = .ok (.iadd, 1) := by decide +kernel
theorem dX0_numberAt_24 : decode cX0_numberAt 24 = .ok (.if_icmp .ge 21, 3) := by decide +kernel
theorem dX0_numberAt_27 : decode cX0_numberAt 27 = .ok (.iload_n 2, 1) := by decide +kernel
theorem dX0_numberAt_28 : decode cX0_numberAt 28 = .ok (.bipush 8, 2) := by decide +kernel
theorem dX0_numberAt_30 : decode cX0_numberAt 30 = .ok (.ishl, 1) := by decide +kernel
theorem dX0_numberAt_31 : decode cX0_numberAt 31 = .ok (.aload_n 0, 1) := by decide +kernel
theorem dX0_numberAt_32 : decode cX0_numberAt 32 = .ok (.getfield 9, 3) := by decide +kernel
theorem dX0_numberAt_35 : decode cX0_numberAt 35 = .ok (.iload_n 3, 1) := by decide +kernel
theorem dX0_numberAt_36 : decode cX0_numberAt 36 = .ok (.iaload, 1) := by decide +kernel
theorem dX0_numberAt_37 : decode cX0_numberAt 37 = .ok (.ior, 1) := by decide +kernel
theorem dX0_numberAt_38 : decode cX0_numberAt 38 = .ok (.istore_n 2, 1) := by decide +kernel
theorem dX0_numberAt_39 : decode cX0_numberAt 39 = .ok (.iinc 3 1, 3) := by decide +kernel
theorem dX0_numberAt_42 : decode cX0_numberAt 42 = .ok (.goto (-22), 3) := by decide +kernel
theorem dX0_numberAt_45 : decode cX0_numberAt 45 = .ok (.iload_n 2, 1) := by decide +kernel
theorem dX0_numberAt_46 : decode cX0_numberAt 46 = .ok (.ireturn, 1) := by decide +kernel
theorem dX0_copy_0 : decode cX0_copy 0 = .ok (.aload_n 0, 1) := by decide +kernel
theorem dX0_copy_1 : decode cX0_copy 1 = .ok (.invokevirtual 23, 3) := by decide +kernel
theorem dX0_copy_4 : decode cX0_copy 4 = .ok (.iconst 0, 1) := by decide +kernel
theorem dX0_copy_5 : decode cX0_copy 5 = .ok (.istore_n 2, 1) := by decide +kernel
theorem dX0_copy_6 : decode cX0_copy 6 = .ok (.iload_n 2, 1) := by decide +kernel
theorem dX0_copy_7 : decode cX0_copy 7 = .ok (.aload_n 1, 1) := by decide +kernel
theorem dX0_copy_8 : decode cX0_copy 8 = .ok (.getfield 15, 3) := by decide +kernel
theorem dX0_copy_11 : decode cX0_copy 11 = .ok (.if_icmp .ge 18, 3) := by decide +kernel
theorem dX0_copy_14 : decode cX0_copy 14 = .ok (.aload_n 0, 1) := by decide +kernel
theorem dX0_copy_15 : decode cX0_copy 15 = .ok (.aload_n 1, 1) := by decide +kernel
theorem dX0_copy_16 : decode cX0_copy 16 = .ok (.iload_n 2, 1) := by decide +kernel
theorem dX0_copy_17 : decode cX0_copy 17 = .ok (.invokevirtual 26, 3) := by decide +kernel
theorem dX0_copy_20 : decode cX0_copy 20 = .ok (.invokevirtual 19, 3) := by decide +kernel
theorem dX0_copy_23 : decode cX0_copy 23 = .ok (.iinc 2 1, 3) := by decide +kernel
theorem dX0_copy_26 : decode cX0_copy 26 = .ok (.goto (-20), 3) := by decide +kernel
theorem dX0_copy_29 : decode cX0_copy 29 = .ok (.return_, 1) := by decide +kernel
theorem dX0_setOrder_0 : decode cX0_setOrder 0 = .ok (.aload_n 0, 1) := by decide +kernel
theorem dX0_setOrder_1 : decode cX0_setOrder 1 = .ok (.invokevirtual 23, 3) := by decide +kernel
theorem dX0_setOrder_4 : decode cX0_setOrder 4 = .ok (.aload_n 0, 1) := by decide +kernel
theorem dX0_setOrder_5 : decode cX0_setOrder 5 = .ok (.bipush 39, 2) := by decide +kernel
theorem dX0_setOrder_7 : decode cX0_setOrder 7 = .ok (.invokevirtual 19, 3) := by decide +kernel
theorem dX0_setOrder_10 : decode cX0_setOrder 10 = .ok (.aload_n 0, 1) := by decide +kernel
theorem dX0_setOrder_11 : decode cX0_setOrder 11 = .ok (.aload_n 1, 1) := by decide +kernel
theorem dX0_setOrder_12 : decode cX0_setOrder 12 = .ok (.getfield 30, 3) := by decide +kernel
theorem dX0_setOrder_15 : decode cX0_setOrder 15 = .ok (.invokevirtual 19, 3) := by decide +kernel
theorem dX0_setOrder_18 : decode cX0_setOrder 18 = .ok (.aload_n 0, 1) := by decide +kernel
theorem dX0_setOrder_19 : decode cX0_setOrder 19 = .ok (.aload_n 1, 1) := by decide +kernel
theorem dX0_setOrder_20 : decode cX0_setOrder 20 = .ok (.getfield 35, 3) := by decide +kernel
theorem dX0_setOrder_23 : decode cX0_setOrder 23 = .ok (.invokevirtual 19, 3) := by decide +kernel
theorem dX0_setOrder_26 : decode cX0_setOrder 26 = .ok (.aload_n 0, 1) := by decide +kernel
theorem dX0_setOrder_27 : decode cX0_setOrder 27 = .ok (.aload_n 1, 1) := by decide +kernel
theorem dX0_setOrder_28 : decode cX0_setOrder 28 = .ok (.getfield 38, 3) := by decide +kernel
theorem dX0_setOrder_31 : decode cX0_setOrder 31 = .ok (.invokevirtual 19, 3) := by decide +kernel
theorem dX0_setOrder_34 : decode cX0_setOrder 34 = .ok (.aload_n 0, 1) := by decide +kernel
theorem dX0_setOrder_35 : decode cX0_setOrder 35 = .ok (.aload_n 1, 1) := by decide +kernel
theorem dX0_setOrder_36 : decode cX0_setOrder 36 = .ok (.getfield 41, 3) := by decide +kernel
theorem dX0_setOrder_39 : decode cX0_setOrder 39 = .ok (.invokevirtual 19, 3) := by decide +kernel
theorem dX0_setOrder_42 : decode cX0_setOrder 42 = .ok (.return_, 1) := by decide +kernel
theorem dX0_setNumber_0 : decode cX0_setNumber 0 = .ok (.aload_n 0, 1) := by decide +kernel
theorem dX0_setNumber_1 : decode cX0_setNumber 1 = .ok (.invokevirtual 23, 3) := by decide +kernel
theorem dX0_setNumber_4 : decode cX0_setNumber 4 = .ok (.aload_n 0, 1) := by decide +kernel
theorem dX0_setNumber_5 : decode cX0_setNumber 5 = .ok (.bipush 70, 2) := by decide +kernel
theorem dX0_setNumber_7 : decode cX0_setNumber 7 = .ok (.invokevirtual 19, 3) := by decide +kernel
theorem dX0_setNumber_10 : decode cX0_setNumber 10 = .ok (.aload_n 0, 1) := by decide +kernel
theorem dX0_setNumber_11 : decode cX0_setNumber 11 = .ok (.iload_n 1, 1) := by decide +kernel
theorem dX0_setNumber_12 : decode cX0_setNumber 12 = .ok (.invokevirtual 19, 3) := by decide +kernel
theorem dX0_setNumber_15 : decode cX0_setNumber 15 = .ok (.aload_n 0, 1) := by decide +kernel
theorem dX0_setNumber_16 : decode cX0_setNumber 16 = .ok (.iload_n 2, 1) := by decide +kernel
theorem dX0_setNumber_17 : decode cX0_setNumber 17 = .ok (.invokevirtual 44, 3) := by decide +kernel
theorem dX0_setNumber_20 : decode cX0_setNumber 20 = .ok (.return_, 1) := by decide +kernel
theorem dX0_setAnswer_0 : decode cX0_setAnswer 0 = .ok (.aload_n 0, 1) := by decide +kernel
theorem dX0_setAnswer_1 : decode cX0_setAnswer 1 = .ok (.invokevirtual 23, 3) := by decide +kernel
theorem dX0_setAnswer_4 : decode cX0_setAnswer 4 = .ok (.aload_n 0, 1) := by decide +kernel
theorem dX0_setAnswer_5 : decode cX0_setAnswer 5 = .ok (.sipush 161, 3) := by decide +kernel
theorem dX0_setAnswer_8 : decode cX0_setAnswer 8 = .ok (.invokevirtual 19, 3) := by decide +kernel
theorem dX0_setAnswer_11 : decode cX0_setAnswer 11 = .ok (.aload_n 0, 1) := by decide +kernel
theorem dX0_setAnswer_12 : decode cX0_setAnswer 12 = .ok (.iload_n 1, 1) := by decide +kernel
theorem dX0_setAnswer_13 : decode cX0_setAnswer 13 = .ok (.invokevirtual 19, 3) := by decide +kernel
theorem dX0_setAnswer_16 : decode cX0_setAnswer 16 = .ok (.aload_n 0, 1) := by decide +kernel
theorem dX0_setAnswer_17 : decode cX0_setAnswer 17 = .ok (.iload_n 2, 1) := by decide +kernel
theorem dX0_setAnswer_18 : decode cX0_setAnswer 18 = .ok (.invokevirtual 19, 3) := by decide +kernel
theorem dX0_setAnswer_21 : decode cX0_setAnswer 21 = .ok (.return_, 1) := by decide +kernel
theorem dX0_checksum_0 : decode cX0_checksum 0 = .ok (.ldc 47, 2) := by decide +kernel
theorem dX0_checksum_2 : decode cX0_checksum 2 = .ok (.istore_n 2, 1) := by decide +kernel
theorem dX0_checksum_3 : decode cX0_checksum 3 = .ok (.iconst 0, 1) := by decide +kernel
theorem dX0_checksum_4 : decode cX0_checksum 4 = .ok (.istore_n 3, 1) := by decide +kernel
theorem dX0_checksum_5 : decode cX0_checksum 5 = .ok (.iload_n 3, 1) := by decide +kernel
theorem dX0_checksum_6 : decode cX0_checksum 6 = .ok (.iload_n 1, 1) := by decide +kernel
theorem dX0_checksum_7 : decode cX0_checksum 7 = .ok (.if_icmp .ge 65, 3) := by decide +kernel
theorem dX0_checksum_10 : decode cX0_checksum 10 = .ok (.iload_n 3, 1) := by decide +kernel
theorem dX0_checksum_11 : decode cX0_checksum 11 = .ok (.aload_n 0, 1) := by decide +kernel
theorem dX0_checksum_12 : decode cX0_checksum 12 = .ok (.getfield 15, 3) := by decide +kernel
theorem dX0_checksum_15 : decode cX0_checksum 15 = .ok (.if_icmp .ge 57, 3) := by decide +kernel
theorem dX0_checksum_18 : decode cX0_checksum 18 = .ok (.bipush 7, 2) := by decide +kernel
theorem dX0_checksum_20 : decode cX0_checksum 20 = .ok (.istore 4, 2) := by decide +kernel
theorem dX0_checksum_22 : decode cX0_checksum 22 = .ok (.iload 4, 2) := by decide +kernel
theorem dX0_checksum_24 : decode cX0_checksum 24 = .ok (.ifCond .lt 42, 3) := by decide +kernel
theorem dX0_checksum_27 : decode cX0_checksum 27 = .ok (.iload_n 2, 1) := by decide +kernel
theorem dX0_checksum_28 : decode cX0_checksum 28 = .ok (.bipush 31, 2) := by decide +kernel
theorem dX0_checksum_30 : decode cX0_checksum 30 = .ok (.iushr, 1) := by decide +kernel
theorem dX0_checksum_31 : decode cX0_checksum 31 = .ok (.aload_n 0, 1) := by decide +kernel
theorem dX0_checksum_32 : decode cX0_checksum 32 = .ok (.getfield 9, 3) := by decide +kernel
theorem dX0_checksum_35 : decode cX0_checksum 35 = .ok (.iload_n 3, 1) := by decide +kernel
theorem dX0_checksum_36 : decode cX0_checksum 36 = .ok (.iaload, 1) := by decide +kernel
theorem dX0_checksum_37 : decode cX0_checksum 37 = .ok (.iload 4, 2) := by decide +kernel
theorem dX0_checksum_39 : decode cX0_checksum 39 = .ok (.iushr, 1) := by decide +kernel
theorem dX0_checksum_40 : decode cX0_checksum 40 = .ok (.iconst 1, 1) := by decide +kernel
theorem dX0_checksum_41 : decode cX0_checksum 41 = .ok (.iand, 1) := by decide +kernel
theorem dX0_checksum_42 : decode cX0_checksum 42 = .ok (.ixor, 1) := by decide +kernel
theorem dX0_checksum_43 : decode cX0_checksum 43 = .ok (.istore 5, 2) := by decide +kernel
theorem dX0_checksum_45 : decode cX0_checksum 45 = .ok (.iload_n 2, 1) := by decide +kernel
theorem dX0_checksum_46 : decode cX0_checksum 46 = .ok (.iconst 1, 1) := by decide +kernel
theorem dX0_checksum_47 : decode cX0_checksum 47 = .ok (.ishl, 1) := by decide +kernel
theorem dX0_checksum_48 : decode cX0_checksum 48 = .ok (.istore_n 2, 1) := by decide +kernel
theorem dX0_checksum_49 : decode cX0_checksum 49 = .ok (.iload 5, 2) := by decide +kernel
theorem dX0_checksum_51 : decode cX0_checksum 51 = .ok (.iconst 1, 1) := by decide +kernel
theorem dX0_checksum_52 : decode cX0_checksum 52 = .ok (.if_icmp .ne 8, 3) := by decide +kernel
theorem dX0_checksum_55 : decode cX0_checksum 55 = .ok (.iload_n 2, 1) := by decide +kernel
theorem dX0_checksum_56 : decode cX0_checksum 56 = .ok (.ldc 48, 2) := by decide +kernel
theorem dX0_checksum_58 : decode cX0_checksum 58 = .ok (.ixor, 1) := by decide +kernel
theorem dX0_checksum_59 : decode cX0_checksum 59 = .ok (.istore_n 2, 1) := by decide +kernel
theorem dX0_checksum_60 : decode cX0_checksum 60 = .ok (.iinc 4 (-1), 3) := by decide +kernel
theorem dX0_checksum_63 : decode cX0_checksum 63 = .ok (.goto (-41), 3) := by decide +kernel
theorem dX0_checksum_66 : decode cX0_checksum 66 = .ok (.iinc 3 1, 3) := by decide +kernel
theorem dX0_checksum_69 : decode cX0_checksum 69 = .ok (.goto (-64), 3) := by decide +kernel
theorem dX0_checksum_72 : decode cX0_checksum 72 = .ok (.iload_n 2, 1) := by decide +kernel
theorem dX0_checksum_73 : decode cX0_checksum 73 = .ok (.ireturn, 1) := by decide +kernel
theorem dX1_init_0 : decode cX1_init 0 = .ok (.aload_n 0, 1) := by decide +kernel
theorem dX1_init_1 : decode cX1_init 1 = .ok (.invokespecial 3, 3) := by decide +kernel
theorem dX1_init_4 : decode cX1_init 4 = .ok (.aload_n 0, 1) := by decide +kernel
theorem dX1_init_5 : decode cX1_init 5 = .ok (.sipush 264, 3) := by decide +kernel
theorem dX1_init_8 : decode cX1_init 8 = .ok (.newarray .int, 2) := by decide +kernel
theorem dX1_init_10 : decode cX1_init 10 = .ok (.putfield 9, 3) := by decide +kernel
theorem dX1_init_13 : decode cX1_init 13 = .ok (.aload_n 0, 1) := by decide +kernel
theorem dX1_init_14 : decode cX1_init 14 = .ok (.sipush 1024, 3) := by decide +kernel
theorem dX1_init_17 : decode cX1_init 17 = .ok (.newarray .int, 2) := by decide +kernel
theorem dX1_init_19 : decode cX1_init 19 = .ok (.putfield 15, 3) := by decide +kernel
theorem dX1_init_22 : decode cX1_init 22 = .ok (.iconst 0, 1) := by decide +kernel
theorem dX1_init_23 : decode cX1_init 23 = .ok (.istore_n 1, 1) := by decide +kernel
theorem dX1_init_24 : decode cX1_init 24 = .ok (.iload_n 1, 1) := by decide +kernel
theorem dX1_init_25 : decode cX1_init 25 = .ok (.sipush 1024, 3) := by decide +kernel
theorem dX1_init_28 : decode cX1_init 28 = .ok (.if_icmp .ge 16, 3) := by decide +kernel
theorem dX1_init_31 : decode cX1_init 31 = .ok (.aload_n 0, 1) := by decide +kernel
theorem dX1_init_32 : decode cX1_init 32 = .ok (.getfield 15, 3) := by decide +kernel
theorem dX1_init_35 : decode cX1_init 35 = .ok (.iload_n 1, 1) := by decide +kernel
theorem dX1_init_36 : decode cX1_init 36 = .ok (.iconst (-1), 1) := by decide +kernel
theorem dX1_init_37 : decode cX1_init 37 = .ok (.iastore, 1) := by decide +kernel
theorem dX1_init_38 : decode cX1_init 38 = .ok (.iinc 1 1, 3) := by decide +kernel
theorem dX1_init_41 : decode cX1_init 41 = .ok (.goto (-17), 3) := by decide +kernel
theorem dX1_init_44 : decode cX1_init 44 = .ok (.iconst 0, 1) := by decide +kernel
theorem dX1_init_45 : decode cX1_init 45 = .ok (.istore_n 1, 1) := by decide +kernel
theorem dX1_init_46 : decode cX1_init 46 = .ok (.sipush 252, 3) := by decide +kernel
theorem dX1_init_49 : decode cX1_init 49 = .ok (.istore_n 2, 1) := by decide +kernel
theorem dX1_init_50 : decode cX1_init 50 = .ok (.iconst 0, 1) := by decide +kernel
theorem dX1_init_51 : decode cX1_init 51 = .ok (.istore_n 3, 1) := by decide +kernel
theorem dX1_init_52 : decode cX1_init 52 = .ok (.iload_n 3, 1) := by decide +kernel
theorem dX1_init_53 : decode cX1_init 53 = .ok (.sipush 1024, 3) := by decide +kernel
theorem dX1_init_56 : decode cX1_init 56 = .ok (.if_icmp .ge 90, 3) := by decide +kernel
theorem dX1_init_59 : decode cX1_init 59 = .ok (.iload_n 3, 1) := by decide +kernel
theorem dX1_init_60 : decode cX1_init 60 = .ok (.invokestatic 18, 3) := by decide +kernel
theorem dX1_init_63 : decode cX1_init 63 = .ok (.istore 4, 2) := by decide +kernel
theorem dX1_init_65 : decode cX1_init 65 = .ok (.iload 4, 2) := by decide +kernel
theorem dX1_init_67 : decode cX1_init 67 = .ok (.iconst 5, 1) := by decide +kernel
theorem dX1_init_68 : decode cX1_init 68 = .ok (.if_icmp .ne 30, 3) := by decide +kernel
theorem dX1_init_71 : decode cX1_init 71 = .ok (.iload_n 1, 1) := by decide +kernel
theorem dX1_init_72 : decode cX1_init 72 = .ok (.sipush 252, 3) := by decide +kernel
theorem dX1_init_75 : decode cX1_init 75 = .ok (.if_icmp .ge 23, 3) := by decide +kernel
theorem dX1_init_78 : decode cX1_init 78 = .ok (.aload_n 0, 1) := by decide +kernel
theorem dX1_init_79 : decode cX1_init 79 = .ok (.getfield 9, 3) := by decide +kernel
theorem dX1_init_82 : decode cX1_init 82 = .ok (.iload_n 1, 1) := by decide +kernel
theorem dX1_init_83 : decode cX1_init 83 = .ok (.iload_n 3, 1) := by decide +kernel
theorem dX1_init_84 : decode cX1_init 84 = .ok (.iastore, 1) := by decide +kernel
theorem dX1_init_85 : decode cX1_init 85 = .ok (.aload_n 0, 1) := by decide +kernel
theorem dX1_init_86 : decode cX1_init 86 = .ok (.getfield 15, 3) := by decide +kernel
theorem dX1_init_89 : decode cX1_init 89 = .ok (.iload_n 3, 1) := by decide +kernel
theorem dX1_init_90 : decode cX1_init 90 = .ok (.iload_n 1, 1) := by decide +kernel
theorem dX1_init_91 : decode cX1_init 91 = .ok (.iastore, 1) := by decide +kernel
theorem dX1_init_92 : decode cX1_init 92 = .ok (.iinc 1 1, 3) := by decide +kernel
theorem dX1_init_95 : decode cX1_init 95 = .ok (.goto 45, 3) := by decide +kernel
theorem dX1_init_98 : decode cX1_init 98 = .ok (.iload 4, 2) := by decide +kernel
theorem dX1_init_100 : decode cX1_init 100 = .ok (.bipush 6, 2) := by decide +kernel
theorem dX1_init_102 : decode cX1_init 102 = .ok (.if_icmp .ne 38, 3) := by decide +kernel
theorem dX1_init_105 : decode cX1_init 105 = .ok (.iload_n 2, 1) := by decide +kernel
theorem dX1_init_106 : decode cX1_init 106 = .ok (.sipush 264, 3) := by decide +kernel
theorem dX1_init_109 : decode cX1_init 109 = .ok (.if_icmp .ge 31, 3) := by decide +kernel
theorem dX1_init_112 : decode cX1_init 112 = .ok (.aload_n 0, 1) := by decide +kernel
theorem dX1_init_113 : decode cX1_init 113 = .ok (.getfield 9, 3) := by decide +kernel
theorem dX1_init_116 : decode cX1_init 116 = .ok (.iload_n 2, 1) := by decide +kernel
theorem dX1_init_117 : decode cX1_init 117 = .ok (.iload_n 3, 1) := by decide +kernel
theorem dX1_init_118 : decode cX1_init 118 = .ok (.iastore, 1) := by decide +kernel
theorem dX1_init_119 : decode cX1_init 119 = .ok (.aload_n 0, 1) := by decide +kernel
theorem dX1_init_120 : decode cX1_init 120 = .ok (.getfield 15, 3) := by decide +kernel
theorem dX1_init_123 : decode cX1_init 123 = .ok (.iload_n 3, 1) := by decide +kernel
theorem dX1_init_124 : decode cX1_init 124 = .ok (.iload_n 2, 1) := by decide +kernel
theorem dX1_init_125 : decode cX1_init 125 = .ok (.iastore, 1) := by decide +kernel
theorem dX1_init_126 : decode cX1_init 126 = .ok (.aload_n 0, 1) := by decide +kernel
theorem dX1_init_127 : decode cX1_init 127 = .ok (.getfield 15, 3) := by decide +kernel
theorem dX1_init_130 : decode cX1_init 130 = .ok (.sipush 1023, 3) := by decide +kernel
theorem dX1_init_133 : decode cX1_init 133 = .ok (.iload_n 3, 1) := by decide +kernel
theorem dX1_init_134 : decode cX1_init 134 = .ok (.ixor, 1) := by decide +kernel
theorem dX1_init_135 : decode cX1_init 135 = .ok (.iload_n 2, 1) := by decide +kernel
theorem dX1_init_136 : decode cX1_init 136 = .ok (.iastore, 1) := by decide +kernel
theorem dX1_init_137 : decode cX1_init 137 = .ok (.iinc 2 1, 3) := by decide +kernel
theorem dX1_init_140 : decode cX1_init 140 = .ok (.iinc 3 1, 3) := by decide +kernel
theorem dX1_init_143 : decode cX1_init 143 = .ok (.goto (-91), 3) := by decide +kernel
theorem dX1_init_146 : decode cX1_init 146 = .ok (.return_, 1) := by decide +kernel
theorem dX1_wordOf_0 : decode cX1_wordOf 0 = .ok (.iload_n 1, 1) := by decide +kernel
theorem dX1_wordOf_1 : decode cX1_wordOf 1 = .ok (.ifCond .lt 10, 3) := by decide +kernel
theorem dX1_wordOf_4 : decode cX1_wordOf 4 = .ok (.iload_n 1, 1) := by decide +kernel
theorem dX1_wordOf_5 : decode cX1_wordOf 5 = .ok (.sipush 264, 3) := by decide +kernel
theorem dX1_wordOf_8 : decode cX1_wordOf 8 = .ok (.if_icmp .lt 6, 3) := by decide +kernel
theorem dX1_wordOf_11 : decode cX1_wordOf 11 = .ok (.bipush (-3), 2) := by decide +kernel
theorem dX1_wordOf_13 : decode cX1_wordOf 13 = .ok (.ireturn, 1) := by decide +kernel
theorem dX1_wordOf_14 : decode cX1_wordOf 14 = .ok (.aload_n 0, 1) := by decide +kernel
theorem dX1_wordOf_15 : decode cX1_wordOf 15 = .ok (.getfield 9, 3) := by decide +kernel
theorem dX1_wordOf_18 : decode cX1_wordOf 18 = .ok (.iload_n 1, 1) := by decide +kernel
theorem dX1_wordOf_19 : decode cX1_wordOf 19 = .ok (.iaload, 1) := by decide +kernel
theorem dX1_wordOf_20 : decode cX1_wordOf 20 = .ok (.istore_n 3, 1) := by decide +kernel
theorem dX1_wordOf_21 : decode cX1_wordOf 21 = .ok (.iload_n 2, 1) := by decide +kernel
theorem dX1_wordOf_22 : decode cX1_wordOf 22 = .ok (.ifCond .eq 18, 3) := by decide +kernel
theorem dX1_wordOf_25 : decode cX1_wordOf 25 = .ok (.iload_n 1, 1) := by decide +kernel
theorem dX1_wordOf_26 : decode cX1_wordOf 26 = .ok (.sipush 252, 3) := by decide +kernel
theorem dX1_wordOf_29 : decode cX1_wordOf 29 = .ok (.if_icmp .lt 11, 3) := by decide +kernel
theorem dX1_wordOf_32 : decode cX1_wordOf 32 = .ok (.sipush 1023, 3) := by decide +kernel
theorem dX1_wordOf_35 : decode cX1_wordOf 35 = .ok (.iload_n 3, 1) := by decide +kernel
theorem dX1_wordOf_36 : decode cX1_wordOf 36 = .ok (.ixor, 1) := by decide +kernel
theorem dX1_wordOf_37 : decode cX1_wordOf 37 = .ok (.goto 4, 3) := by decide +kernel
theorem dX1_wordOf_40 : decode cX1_wordOf 40 = .ok (.iload_n 3, 1) := by decide +kernel
theorem dX1_wordOf_41 : decode cX1_wordOf 41 = .ok (.ireturn, 1) := by decide +kernel
theorem dX1_valueOf_0 : decode cX1_valueOf 0 = .ok (.iload_n 1, 1) := by decide +kernel
theorem dX1_valueOf_1 : decode cX1_valueOf 1 = .ok (.ifCond .lt 10, 3) := by decide +kernel
theorem dX1_valueOf_4 : decode cX1_valueOf 4 = .ok (.iload_n 1, 1) := by decide +kernel
theorem dX1_valueOf_5 : decode cX1_valueOf 5 = .ok (.sipush 1024, 3) := by decide +kernel
theorem dX1_valueOf_8 : decode cX1_valueOf 8 = .ok (.if_icmp .lt 5, 3) := by decide +kernel
theorem dX1_valueOf_11 : decode cX1_valueOf 11 = .ok (.iconst (-1), 1) := by decide +kernel
theorem dX1_valueOf_12 : decode cX1_valueOf 12 = .ok (.ireturn, 1) := by decide +kernel
theorem dX1_valueOf_13 : decode cX1_valueOf 13 = .ok (.aload_n 0, 1) := by decide +kernel
theorem dX1_valueOf_14 : decode cX1_valueOf 14 = .ok (.getfield 15, 3) := by decide +kernel
theorem dX1_valueOf_17 : decode cX1_valueOf 17 = .ok (.iload_n 1, 1) := by decide +kernel
theorem dX1_valueOf_18 : decode cX1_valueOf 18 = .ok (.iaload, 1) := by decide +kernel
theorem dX1_valueOf_19 : decode cX1_valueOf 19 = .ok (.istore_n 3, 1) := by decide +kernel
theorem dX1_valueOf_20 : decode cX1_valueOf 20 = .ok (.iload_n 1, 1) := by decide +kernel
theorem dX1_valueOf_21 : decode cX1_valueOf 21 = .ok (.invokestatic 18, 3) := by decide +kernel
theorem dX1_valueOf_24 : decode cX1_valueOf 24 = .ok (.iconst 5, 1) := by decide +kernel
theorem dX1_valueOf_25 : decode cX1_valueOf 25 = .ok (.if_icmp .ge 7, 3) := by decide +kernel
theorem dX1_valueOf_28 : decode cX1_valueOf 28 = .ok (.iconst 1, 1) := by decide +kernel
theorem dX1_valueOf_29 : decode cX1_valueOf 29 = .ok (.goto 4, 3) := by decide +kernel
theorem dX1_valueOf_32 : decode cX1_valueOf 32 = .ok (.iconst 0, 1) := by decide +kernel
theorem dX1_valueOf_33 : decode cX1_valueOf 33 = .ok (.istore 4, 2) := by decide +kernel
theorem dX1_valueOf_35 : decode cX1_valueOf 35 = .ok (.iload_n 3, 1) := by decide +kernel
theorem dX1_valueOf_36 : decode cX1_valueOf 36 = .ok (.sipush 252, 3) := by decide +kernel
theorem dX1_valueOf_39 : decode cX1_valueOf 39 = .ok (.if_icmp .lt 14, 3) := by decide +kernel
theorem dX1_valueOf_42 : decode cX1_valueOf 42 = .ok (.iload 4, 2) := by decide +kernel
theorem dX1_valueOf_44 : decode cX1_valueOf 44 = .ok (.iload_n 2, 1) := by decide +kernel
theorem dX1_valueOf_45 : decode cX1_valueOf 45 = .ok (.if_icmp .eq 8, 3) := by decide +kernel
theorem dX1_valueOf_48 : decode cX1_valueOf 48 = .ok (.bipush (-2), 2) := by decide +kernel
theorem dX1_valueOf_50 : decode cX1_valueOf 50 = .ok (.goto 4, 3) := by decide +kernel
theorem dX1_valueOf_53 : decode cX1_valueOf 53 = .ok (.iload_n 3, 1) := by decide +kernel
theorem dX1_valueOf_54 : decode cX1_valueOf 54 = .ok (.ireturn, 1) := by decide +kernel
theorem dX2_init_0 : decode cX2_init 0 = .ok (.aload_n 0, 1) := by decide +kernel
theorem dX2_init_1 : decode cX2_init 1 = .ok (.invokespecial 3, 3) := by decide +kernel
theorem dX2_init_4 : decode cX2_init 4 = .ok (.aload_n 0, 1) := by decide +kernel
theorem dX2_init_5 : decode cX2_init 5 = .ok (.iconst 4, 1) := by decide +kernel
theorem dX2_init_6 : decode cX2_init 6 = .ok (.newarray .int, 2) := by decide +kernel
theorem dX2_init_8 : decode cX2_init 8 = .ok (.putfield 9, 3) := by decide +kernel
theorem dX2_init_11 : decode cX2_init 11 = .ok (.aload_n 0, 1) := by decide +kernel
theorem dX2_init_12 : decode cX2_init 12 = .ok (.iconst 0, 1) := by decide +kernel
theorem dX2_init_13 : decode cX2_init 13 = .ok (.putfield 15, 3) := by decide +kernel
theorem dX2_init_16 : decode cX2_init 16 = .ok (.aload_n 0, 1) := by decide +kernel
theorem dX2_init_17 : decode cX2_init 17 = .ok (.iload_n 1, 1) := by decide +kernel
theorem dX2_init_18 : decode cX2_init 18 = .ok (.putfield 19, 3) := by decide +kernel
theorem dX2_init_21 : decode cX2_init 21 = .ok (.return_, 1) := by decide +kernel
theorem dX2_begin_0 : decode cX2_begin 0 = .ok (.aload_n 0, 1) := by decide +kernel
theorem dX2_begin_1 : decode cX2_begin 1 = .ok (.iconst 1, 1) := by decide +kernel
theorem dX2_begin_2 : decode cX2_begin 2 = .ok (.putfield 15, 3) := by decide +kernel
theorem dX2_begin_5 : decode cX2_begin 5 = .ok (.aload_n 0, 1) := by decide +kernel
theorem dX2_begin_6 : decode cX2_begin 6 = .ok (.iload_n 1, 1) := by decide +kernel
theorem dX2_begin_7 : decode cX2_begin 7 = .ok (.putfield 22, 3) := by decide +kernel
theorem dX2_begin_10 : decode cX2_begin 10 = .ok (.aload_n 0, 1) := by decide +kernel
theorem dX2_begin_11 : decode cX2_begin 11 = .ok (.iload_n 2, 1) := by decide +kernel
theorem dX2_begin_12 : decode cX2_begin 12 = .ok (.putfield 25, 3) := by decide +kernel
theorem dX2_begin_15 : decode cX2_begin 15 = .ok (.aload_n 0, 1) := by decide +kernel
theorem dX2_begin_16 : decode cX2_begin 16 = .ok (.iload_n 3, 1) := by decide +kernel
theorem dX2_begin_17 : decode cX2_begin 17 = .ok (.putfield 28, 3) := by decide +kernel
theorem dX2_begin_20 : decode cX2_begin 20 = .ok (.aload_n 0, 1) := by decide +kernel
theorem dX2_begin_21 : decode cX2_begin 21 = .ok (.iload 4, 2) := by decide +kernel
theorem dX2_begin_23 : decode cX2_begin 23 = .ok (.putfield 31, 3) := by decide +kernel
theorem dX2_begin_26 : decode cX2_begin 26 = .ok (.return_, 1) := by decide +kernel
theorem dX2_end_0 : decode cX2_end 0 = .ok (.aload_n 0, 1) := by decide +kernel
theorem dX2_end_1 : decode cX2_end 1 = .ok (.iconst 2, 1) := by decide +kernel
theorem dX2_end_2 : decode cX2_end 2 = .ok (.putfield 15, 3) := by decide +kernel
theorem dX2_end_5 : decode cX2_end 5 = .ok (.aload_n 0, 1) := by decide +kernel
theorem dX2_end_6 : decode cX2_end 6 = .ok (.iload_n 1, 1) := by decide +kernel
theorem dX2_end_7 : decode cX2_end 7 = .ok (.putfield 34, 3) := by decide +kernel
theorem dX2_end_10 : decode cX2_end 10 = .ok (.return_, 1) := by decide +kernel
theorem dX2_lastSector_0 : decode cX2_lastSector 0 = .ok (.aload_n 0, 1) := by decide +kernel
theorem dX2_lastSector_1 : decode cX2_lastSector 1 = .ok (.getfield 22, 3) := by decide +kernel
theorem dX2_lastSector_4 : decode cX2_lastSector 4 = .ok (.iconst 3, 1) := by decide +kernel
theorem dX2_lastSector_5 : decode cX2_lastSector 5 = .ok (.if_icmp .ne 7, 3) := by decide +kernel
theorem dX2_lastSector_8 : decode cX2_lastSector 8 = .ok (.iconst 0, 1) := by decide +kernel
theorem dX2_lastSector_9 : decode cX2_lastSector 9 = .ok (.goto 14, 3) := by decide +kernel
theorem dX2_lastSector_12 : decode cX2_lastSector 12 = .ok (.aload_n 0, 1) := by decide +kernel
theorem dX2_lastSector_13 : decode cX2_lastSector 13 = .ok (.getfield 25, 3) := by decide +kernel
theorem dX2_lastSector_16 : decode cX2_lastSector 16 = .ok (.aload_n 0, 1) := by decide +kernel
theorem dX2_lastSector_17 : decode cX2_lastSector 17 = .ok (.getfield 28, 3) := by decide +kernel
theorem dX2_lastSector_20 : decode cX2_lastSector 20 = .ok (.iadd, 1) := by decide +kernel
theorem dX2_lastSector_21 : decode cX2_lastSector 21 = .ok (.iconst 1, 1) := by decide +kernel
theorem dX2_lastSector_22 : decode cX2_lastSector 22 = .ok (.isub, 1) := by decide +kernel
theorem dX2_lastSector_23 : decode cX2_lastSector 23 = .ok (.ireturn, 1) := by decide +kernel
theorem dX2_numberAt_0 : decode cX2_numberAt 0 = .ok (.iload_n 1, 1) := by decide +kernel
theorem dX2_numberAt_1 : decode cX2_numberAt 1 = .ok (.ifCond .lt 21, 3) := by decide +kernel
theorem dX2_numberAt_4 : decode cX2_numberAt 4 = .ok (.iload_n 1, 1) := by decide +kernel
theorem dX2_numberAt_5 : decode cX2_numberAt 5 = .ok (.aload_n 0, 1) := by decide +kernel
theorem dX2_numberAt_6 : decode cX2_numberAt 6 = .ok (.getfield 9, 3) := by decide +kernel
theorem dX2_numberAt_9 : decode cX2_numberAt 9 = .ok (.arraylength, 1) := by decide +kernel
theorem dX2_numberAt_10 : decode cX2_numberAt 10 = .ok (.if_icmp .ge 12, 3) := by decide +kernel
theorem dX2_numberAt_13 : decode cX2_numberAt 13 = .ok (.aload_n 0, 1) := by decide +kernel
theorem dX2_numberAt_14 : decode cX2_numberAt 14 = .ok (.getfield 9, 3) := by decide +kernel
theorem dX2_numberAt_17 : decode cX2_numberAt 17 = .ok (.iload_n 1, 1) := by decide +kernel
theorem dX2_numberAt_18 : decode cX2_numberAt 18 = .ok (.iaload, 1) := by decide +kernel
theorem dX2_numberAt_19 : decode cX2_numberAt 19 = .ok (.goto 4, 3) := by decide +kernel
theorem dX2_numberAt_22 : decode cX2_numberAt 22 = .ok (.iconst 0, 1) := by decide +kernel
theorem dX2_numberAt_23 : decode cX2_numberAt 23 = .ok (.ireturn, 1) := by decide +kernel
theorem dX2_setNumber_0 : decode cX2_setNumber 0 = .ok (.iload_n 1, 1) := by decide +kernel
theorem dX2_setNumber_1 : decode cX2_setNumber 1 = .ok (.ifCond .lt 19, 3) := by decide +kernel
theorem dX2_setNumber_4 : decode cX2_setNumber 4 = .ok (.iload_n 1, 1) := by decide +kernel
theorem dX2_setNumber_5 : decode cX2_setNumber 5 = .ok (.aload_n 0, 1) := by decide +kernel
theorem dX2_setNumber_6 : decode cX2_setNumber 6 = .ok (.getfield 9, 3) := by decide +kernel
theorem dX2_setNumber_9 : decode cX2_setNumber 9 = .ok (.arraylength, 1) := by decide +kernel
theorem dX2_setNumber_10 : decode cX2_setNumber 10 = .ok (.if_icmp .ge 10, 3) := by decide +kernel
theorem dX2_setNumber_13 : decode cX2_setNumber 13 = .ok (.aload_n 0, 1) := by decide +kernel
theorem dX2_setNumber_14 : decode cX2_setNumber 14 = .ok (.getfield 9, 3) := by decide +kernel
theorem dX2_setNumber_17 : decode cX2_setNumber 17 = .ok (.iload_n 1, 1) := by decide +kernel
theorem dX2_setNumber_18 : decode cX2_setNumber 18 = .ok (.iload_n 2, 1) := by decide +kernel
theorem dX2_setNumber_19 : decode cX2_setNumber 19 = .ok (.iastore, 1) := by decide +kernel
theorem dX2_setNumber_20 : decode cX2_setNumber 20 = .ok (.return_, 1) := by decide +kernel
theorem dX2_setNumbers_0 : decode cX2_setNumbers 0 = .ok (.aload_n 0, 1) := by decide +kernel
theorem dX2_setNumbers_1 : decode cX2_setNumbers 1 = .ok (.iconst 0, 1) := by decide +kernel
theorem dX2_setNumbers_2 : decode cX2_setNumbers 2 = .ok (.iload_n 1, 1) := by decide +kernel
theorem dX2_setNumbers_3 : decode cX2_setNumbers 3 = .ok (.invokevirtual 37, 3) := by decide +kernel
theorem dX2_setNumbers_6 : decode cX2_setNumbers 6 = .ok (.aload_n 0, 1) := by decide +kernel
theorem dX2_setNumbers_7 : decode cX2_setNumbers 7 = .ok (.iconst 1, 1) := by decide +kernel
theorem dX2_setNumbers_8 : decode cX2_setNumbers 8 = .ok (.iload_n 2, 1) := by decide +kernel
theorem dX2_setNumbers_9 : decode cX2_setNumbers 9 = .ok (.invokevirtual 37, 3) := by decide +kernel
theorem dX2_setNumbers_12 : decode cX2_setNumbers 12 = .ok (.aload_n 0, 1) := by decide +kernel
theorem dX2_setNumbers_13 : decode cX2_setNumbers 13 = .ok (.iconst 2, 1) := by decide +kernel
theorem dX2_setNumbers_14 : decode cX2_setNumbers 14 = .ok (.iload_n 3, 1) := by decide +kernel
theorem dX2_setNumbers_15 : decode cX2_setNumbers 15 = .ok (.invokevirtual 37, 3) := by decide +kernel
theorem dX2_setNumbers_18 : decode cX2_setNumbers 18 = .ok (.aload_n 0, 1) := by decide +kernel
theorem dX2_setNumbers_19 : decode cX2_setNumbers 19 = .ok (.iconst 3, 1) := by decide +kernel
theorem dX2_setNumbers_20 : decode cX2_setNumbers 20 = .ok (.iload 4, 2) := by decide +kernel
theorem dX2_setNumbers_22 : decode cX2_setNumbers 22 = .ok (.invokevirtual 37, 3) := by decide +kernel
theorem dX2_setNumbers_25 : decode cX2_setNumbers 25 = .ok (.return_, 1) := by decide +kernel
theorem dX2_copyNumbers_0 : decode cX2_copyNumbers 0 = .ok (.iconst 0, 1) := by decide +kernel
theorem dX2_copyNumbers_1 : decode cX2_copyNumbers 1 = .ok (.istore_n 2, 1) := by decide +kernel
theorem dX2_copyNumbers_2 : decode cX2_copyNumbers 2 = .ok (.iload_n 2, 1) := by decide +kernel
theorem dX2_copyNumbers_3 : decode cX2_copyNumbers 3 = .ok (.aload_n 1, 1) := by decide +kernel
theorem dX2_copyNumbers_4 : decode cX2_copyNumbers 4 = .ok (.arraylength, 1) := by decide +kernel
theorem dX2_copyNumbers_5 : decode cX2_copyNumbers 5 = .ok (.if_icmp .ge 29, 3) := by decide +kernel
theorem dX2_copyNumbers_8 : decode cX2_copyNumbers 8 = .ok (.aload_n 1, 1) := by decide +kernel
theorem dX2_copyNumbers_9 : decode cX2_copyNumbers 9 = .ok (.iload_n 2, 1) := by decide +kernel
theorem dX2_copyNumbers_10 : decode cX2_copyNumbers 10 = .ok (.iload_n 2, 1) := by decide +kernel
theorem dX2_copyNumbers_11 : decode cX2_copyNumbers 11 = .ok (.aload_n 0, 1) := by decide +kernel
theorem dX2_copyNumbers_12 : decode cX2_copyNumbers 12 = .ok (.getfield 28, 3) := by decide +kernel
theorem dX2_copyNumbers_15 : decode cX2_copyNumbers 15 = .ok (.if_icmp .ge 11, 3) := by decide +kernel
theorem dX2_copyNumbers_18 : decode cX2_copyNumbers 18 = .ok (.aload_n 0, 1) := by decide +kernel
theorem dX2_copyNumbers_19 : decode cX2_copyNumbers 19 = .ok (.iload_n 2, 1) := by decide +kernel
theorem dX2_copyNumbers_20 : decode cX2_copyNumbers 20 = .ok (.invokevirtual 41, 3) := by decide +kernel
theorem dX2_copyNumbers_23 : decode cX2_copyNumbers 23 = .ok (.goto 4, 3) := by decide +kernel
theorem dX2_copyNumbers_26 : decode cX2_copyNumbers 26 = .ok (.iconst 0, 1) := by decide +kernel
theorem dX2_copyNumbers_27 : decode cX2_copyNumbers 27 = .ok (.iastore, 1) := by decide +kernel
theorem dX2_copyNumbers_28 : decode cX2_copyNumbers 28 = .ok (.iinc 2 1, 3) := by decide +kernel
theorem dX2_copyNumbers_31 : decode cX2_copyNumbers 31 = .ok (.goto (-29), 3) := by decide +kernel
theorem dX2_copyNumbers_34 : decode cX2_copyNumbers 34 = .ok (.return_, 1) := by decide +kernel
theorem dX3_init_0 : decode cX3_init 0 = .ok (.aload_n 0, 1) := by decide +kernel
theorem dX3_init_1 : decode cX3_init 1 = .ok (.invokespecial 3, 3) := by decide +kernel
theorem dX3_init_4 : decode cX3_init 4 = .ok (.aload_n 0, 1) := by decide +kernel
theorem dX3_init_5 : decode cX3_init 5 = .ok (.bipush 32, 2) := by decide +kernel
theorem dX3_init_7 : decode cX3_init 7 = .ok (.newarray .int, 2) := by decide +kernel
theorem dX3_init_9 : decode cX3_init 9 = .ok (.putfield 9, 3) := by decide +kernel
theorem dX3_init_12 : decode cX3_init 12 = .ok (.aload_n 0, 1) := by decide +kernel
theorem dX3_init_13 : decode cX3_init 13 = .ok (.bipush 6, 2) := by decide +kernel
theorem dX3_init_15 : decode cX3_init 15 = .ok (.newarray .int, 2) := by decide +kernel
theorem dX3_init_17 : decode cX3_init 17 = .ok (.putfield 15, 3) := by decide +kernel
theorem dX3_init_20 : decode cX3_init 20 = .ok (.aload_n 0, 1) := by decide +kernel
theorem dX3_init_21 : decode cX3_init 21 = .ok (.bipush 6, 2) := by decide +kernel
theorem dX3_init_23 : decode cX3_init 23 = .ok (.newarray .int, 2) := by decide +kernel
theorem dX3_init_25 : decode cX3_init 25 = .ok (.putfield 18, 3) := by decide +kernel
theorem dX3_init_28 : decode cX3_init 28 = .ok (.return_, 1) := by decide +kernel
theorem dX3_numberOnDisk_0 : decode cX3_numberOnDisk 0 = .ok (.iload_n 1, 1) := by decide +kernel
theorem dX3_numberOnDisk_1 : decode cX3_numberOnDisk 1 = .ok (.ifCond .lt 21, 3) := by decide +kernel
theorem dX3_numberOnDisk_4 : decode cX3_numberOnDisk 4 = .ok (.iload_n 1, 1) := by decide +kernel
theorem dX3_numberOnDisk_5 : decode cX3_numberOnDisk 5 = .ok (.aload_n 0, 1) := by decide +kernel
theorem dX3_numberOnDisk_6 : decode cX3_numberOnDisk 6 = .ok (.getfield 9, 3) := by decide +kernel
theorem dX3_numberOnDisk_9 : decode cX3_numberOnDisk 9 = .ok (.arraylength, 1) := by decide +kernel
theorem dX3_numberOnDisk_10 : decode cX3_numberOnDisk 10 = .ok (.if_icmp .ge 12, 3) := by decide +kernel
theorem dX3_numberOnDisk_13 : decode cX3_numberOnDisk 13 = .ok (.aload_n 0, 1) := by decide +kernel
theorem dX3_numberOnDisk_14 : decode cX3_numberOnDisk 14 = .ok (.getfield 9, 3) := by decide +kernel
theorem dX3_numberOnDisk_17 : decode cX3_numberOnDisk 17 = .ok (.iload_n 1, 1) := by decide +kernel
theorem dX3_numberOnDisk_18 : decode cX3_numberOnDisk 18 = .ok (.iaload, 1) := by decide +kernel
theorem dX3_numberOnDisk_19 : decode cX3_numberOnDisk 19 = .ok (.goto 4, 3) := by decide +kernel
theorem dX3_numberOnDisk_22 : decode cX3_numberOnDisk 22 = .ok (.iconst 0, 1) := by decide +kernel
theorem dX3_numberOnDisk_23 : decode cX3_numberOnDisk 23 = .ok (.ireturn, 1) := by decide +kernel
theorem dX3_numberAsRead_0 : decode cX3_numberAsRead 0 = .ok (.aload_n 0, 1) := by decide +kernel
theorem dX3_numberAsRead_1 : decode cX3_numberAsRead 1 = .ok (.iload_n 1, 1) := by decide +kernel
theorem dX3_numberAsRead_2 : decode cX3_numberAsRead 2 = .ok (.invokevirtual 21, 3) := by decide +kernel
theorem dX3_numberAsRead_5 : decode cX3_numberAsRead 5 = .ok (.istore_n 2, 1) := by decide +kernel
theorem dX3_numberAsRead_6 : decode cX3_numberAsRead 6 = .ok (.iload_n 2, 1) := by decide +kernel
theorem dX3_numberAsRead_7 : decode cX3_numberAsRead 7 = .ok (.ifCond .lt 12, 3) := by decide +kernel
theorem dX3_numberAsRead_10 : decode cX3_numberAsRead 10 = .ok (.aload_n 0, 1) := by decide +kernel
theorem dX3_numberAsRead_11 : decode cX3_numberAsRead 11 = .ok (.getfield 18, 3) := by decide +kernel
theorem dX3_numberAsRead_14 : decode cX3_numberAsRead 14 = .ok (.iload_n 2, 1) := by decide +kernel
theorem dX3_numberAsRead_15 : decode cX3_numberAsRead 15 = .ok (.iaload, 1) := by decide +kernel
theorem dX3_numberAsRead_16 : decode cX3_numberAsRead 16 = .ok (.goto 8, 3) := by decide +kernel
theorem dX3_numberAsRead_19 : decode cX3_numberAsRead 19 = .ok (.aload_n 0, 1) := by decide +kernel
theorem dX3_numberAsRead_20 : decode cX3_numberAsRead 20 = .ok (.iload_n 1, 1) := by decide +kernel
theorem dX3_numberAsRead_21 : decode cX3_numberAsRead 21 = .ok (.invokevirtual 25, 3) := by decide +kernel
theorem dX3_numberAsRead_24 : decode cX3_numberAsRead 24 = .ok (.ireturn, 1) := by decide +kernel
theorem dX3_sectorAtPlace_0 : decode cX3_sectorAtPlace 0 = .ok (.iload_n 1, 1) := by decide +kernel
theorem dX3_sectorAtPlace_1 : decode cX3_sectorAtPlace 1 = .ok (.ifCond .lt 20, 3) := by decide +kernel
theorem dX3_sectorAtPlace_4 : decode cX3_sectorAtPlace 4 = .ok (.iload_n 1, 1) := by decide +kernel
theorem dX3_sectorAtPlace_5 : decode cX3_sectorAtPlace 5 = .ok (.aload_n 0, 1) := by decide +kernel
theorem dX3_sectorAtPlace_6 : decode cX3_sectorAtPlace 6 = .ok (.getfield 28, 3) := by decide +kernel
theorem dX3_sectorAtPlace_9 : decode cX3_sectorAtPlace 9 = .ok (.if_icmp .ge 12, 3) := by decide +kernel
theorem dX3_sectorAtPlace_12 : decode cX3_sectorAtPlace 12 = .ok (.aload_n 0, 1) := by decide +kernel
theorem dX3_sectorAtPlace_13 : decode cX3_sectorAtPlace 13 = .ok (.getfield 15, 3) := by decide +kernel
theorem dX3_sectorAtPlace_16 : decode cX3_sectorAtPlace 16 = .ok (.iload_n 1, 1) := by decide +kernel
theorem dX3_sectorAtPlace_17 : decode cX3_sectorAtPlace 17 = .ok (.iaload, 1) := by decide +kernel
theorem dX3_sectorAtPlace_18 : decode cX3_sectorAtPlace 18 = .ok (.goto 5, 3) := by decide +kernel
theorem dX3_sectorAtPlace_21 : decode cX3_sectorAtPlace 21 = .ok (.bipush (-2), 2) := by decide +kernel
theorem dX3_sectorAtPlace_23 : decode cX3_sectorAtPlace 23 = .ok (.ireturn, 1) := by decide +kernel
theorem dX3_putInCache_0 : decode cX3_putInCache 0 = .ok (.aload_n 0, 1) := by decide +kernel
theorem dX3_putInCache_1 : decode cX3_putInCache 1 = .ok (.iload_n 1, 1) := by decide +kernel
theorem dX3_putInCache_2 : decode cX3_putInCache 2 = .ok (.invokevirtual 21, 3) := by decide +kernel
theorem dX3_putInCache_5 : decode cX3_putInCache 5 = .ok (.istore_n 3, 1) := by decide +kernel
theorem dX3_putInCache_6 : decode cX3_putInCache 6 = .ok (.iload_n 3, 1) := by decide +kernel
theorem dX3_putInCache_7 : decode cX3_putInCache 7 = .ok (.ifCond .ge 48, 3) := by decide +kernel
theorem dX3_putInCache_10 : decode cX3_putInCache 10 = .ok (.aload_n 0, 1) := by decide +kernel
theorem dX3_putInCache_11 : decode cX3_putInCache 11 = .ok (.getfield 28, 3) := by decide +kernel
theorem dX3_putInCache_14 : decode cX3_putInCache 14 = .ok (.bipush 6, 2) := by decide +kernel
theorem dX3_putInCache_16 : decode cX3_putInCache 16 = .ok (.if_icmp .lt 24, 3) := by decide +kernel
theorem dX3_putInCache_19 : decode cX3_putInCache 19 = .ok (.aload_n 0, 1) := by decide +kernel
theorem dX3_putInCache_20 : decode cX3_putInCache 20 = .ok (.aload_n 0, 1) := by decide +kernel
theorem dX3_putInCache_21 : decode cX3_putInCache 21 = .ok (.getfield 15, 3) := by decide +kernel
theorem dX3_putInCache_24 : decode cX3_putInCache 24 = .ok (.iconst 0, 1) := by decide +kernel
theorem dX3_putInCache_25 : decode cX3_putInCache 25 = .ok (.iaload, 1) := by decide +kernel
theorem dX3_putInCache_26 : decode cX3_putInCache 26 = .ok (.aload_n 0, 1) := by decide +kernel
theorem dX3_putInCache_27 : decode cX3_putInCache 27 = .ok (.getfield 18, 3) := by decide +kernel
theorem dX3_putInCache_30 : decode cX3_putInCache 30 = .ok (.iconst 0, 1) := by decide +kernel
theorem dX3_putInCache_31 : decode cX3_putInCache 31 = .ok (.iaload, 1) := by decide +kernel
theorem dX3_putInCache_32 : decode cX3_putInCache 32 = .ok (.invokevirtual 32, 3) := by decide +kernel
theorem dX3_putInCache_35 : decode cX3_putInCache 35 = .ok (.aload_n 0, 1) := by decide +kernel
theorem dX3_putInCache_36 : decode cX3_putInCache 36 = .ok (.iconst 0, 1) := by decide +kernel
theorem dX3_putInCache_37 : decode cX3_putInCache 37 = .ok (.invokevirtual 36, 3) := by decide +kernel
theorem dX3_putInCache_40 : decode cX3_putInCache 40 = .ok (.aload_n 0, 1) := by decide +kernel
theorem dX3_putInCache_41 : decode cX3_putInCache 41 = .ok (.getfield 28, 3) := by decide +kernel
theorem dX3_putInCache_44 : decode cX3_putInCache 44 = .ok (.istore_n 3, 1) := by decide +kernel
theorem dX3_putInCache_45 : decode cX3_putInCache 45 = .ok (.aload_n 0, 1) := by decide +kernel
theorem dX3_putInCache_46 : decode cX3_putInCache 46 = .ok (.dup, 1) := by decide +kernel
theorem dX3_putInCache_47 : decode cX3_putInCache 47 = .ok (.getfield 28, 3) := by decide +kernel
theorem dX3_putInCache_50 : decode cX3_putInCache 50 = .ok (.iconst 1, 1) := by decide +kernel
theorem dX3_putInCache_51 : decode cX3_putInCache 51 = .ok (.iadd, 1) := by decide +kernel
theorem dX3_putInCache_52 : decode cX3_putInCache 52 = .ok (.putfield 28, 3) := by decide +kernel
theorem dX3_putInCache_55 : decode cX3_putInCache 55 = .ok (.aload_n 0, 1) := by decide +kernel
theorem dX3_putInCache_56 : decode cX3_putInCache 56 = .ok (.getfield 15, 3) := by decide +kernel
theorem dX3_putInCache_59 : decode cX3_putInCache 59 = .ok (.iload_n 3, 1) := by decide +kernel
theorem dX3_putInCache_60 : decode cX3_putInCache 60 = .ok (.iload_n 1, 1) := by decide +kernel
theorem dX3_putInCache_61 : decode cX3_putInCache 61 = .ok (.iastore, 1) := by decide +kernel
theorem dX3_putInCache_62 : decode cX3_putInCache 62 = .ok (.aload_n 0, 1) := by decide +kernel
theorem dX3_putInCache_63 : decode cX3_putInCache 63 = .ok (.getfield 18, 3) := by decide +kernel
theorem dX3_putInCache_66 : decode cX3_putInCache 66 = .ok (.iload_n 3, 1) := by decide +kernel
theorem dX3_putInCache_67 : decode cX3_putInCache 67 = .ok (.iload_n 2, 1) := by decide +kernel
theorem dX3_putInCache_68 : decode cX3_putInCache 68 = .ok (.iastore, 1) := by decide +kernel
theorem dX3_putInCache_69 : decode cX3_putInCache 69 = .ok (.return_, 1) := by decide +kernel
theorem dX3_putThrough_0 : decode cX3_putThrough 0 = .ok (.aload_n 0, 1) := by decide +kernel
theorem dX3_putThrough_1 : decode cX3_putThrough 1 = .ok (.iload_n 1, 1) := by decide +kernel
theorem dX3_putThrough_2 : decode cX3_putThrough 2 = .ok (.invokevirtual 21, 3) := by decide +kernel
theorem dX3_putThrough_5 : decode cX3_putThrough 5 = .ok (.istore_n 3, 1) := by decide +kernel
theorem dX3_putThrough_6 : decode cX3_putThrough 6 = .ok (.iload_n 3, 1) := by decide +kernel
theorem dX3_putThrough_7 : decode cX3_putThrough 7 = .ok (.ifCond .lt 8, 3) := by decide +kernel
theorem dX3_putThrough_10 : decode cX3_putThrough 10 = .ok (.aload_n 0, 1) := by decide +kernel
theorem dX3_putThrough_11 : decode cX3_putThrough 11 = .ok (.iload_n 3, 1) := by decide +kernel
theorem dX3_putThrough_12 : decode cX3_putThrough 12 = .ok (.invokevirtual 36, 3) := by decide +kernel
theorem dX3_putThrough_15 : decode cX3_putThrough 15 = .ok (.aload_n 0, 1) := by decide +kernel
theorem dX3_putThrough_16 : decode cX3_putThrough 16 = .ok (.iload_n 1, 1) := by decide +kernel
theorem dX3_putThrough_17 : decode cX3_putThrough 17 = .ok (.iload_n 2, 1) := by decide +kernel
theorem dX3_putThrough_18 : decode cX3_putThrough 18 = .ok (.invokevirtual 32, 3) := by decide +kernel
theorem dX3_putThrough_21 : decode cX3_putThrough 21 = .ok (.return_, 1) := by decide +kernel
theorem dX3_layAll_0 : decode cX3_layAll 0 = .ok (.iconst 0, 1) := by decide +kernel
theorem dX3_layAll_1 : decode cX3_layAll 1 = .ok (.istore_n 1, 1) := by decide +kernel
theorem dX3_layAll_2 : decode cX3_layAll 2 = .ok (.iload_n 1, 1) := by decide +kernel
theorem dX3_layAll_3 : decode cX3_layAll 3 = .ok (.aload_n 0, 1) := by decide +kernel
theorem dX3_layAll_4 : decode cX3_layAll 4 = .ok (.getfield 28, 3) := by decide +kernel
theorem dX3_layAll_7 : decode cX3_layAll 7 = .ok (.if_icmp .ge 25, 3) := by decide +kernel
theorem dX3_layAll_10 : decode cX3_layAll 10 = .ok (.aload_n 0, 1) := by decide +kernel
theorem dX3_layAll_11 : decode cX3_layAll 11 = .ok (.aload_n 0, 1) := by decide +kernel
theorem dX3_layAll_12 : decode cX3_layAll 12 = .ok (.getfield 15, 3) := by decide +kernel
theorem dX3_layAll_15 : decode cX3_layAll 15 = .ok (.iload_n 1, 1) := by decide +kernel
theorem dX3_layAll_16 : decode cX3_layAll 16 = .ok (.iaload, 1) := by decide +kernel
theorem dX3_layAll_17 : decode cX3_layAll 17 = .ok (.aload_n 0, 1) := by decide +kernel
theorem dX3_layAll_18 : decode cX3_layAll 18 = .ok (.getfield 18, 3) := by decide +kernel
theorem dX3_layAll_21 : decode cX3_layAll 21 = .ok (.iload_n 1, 1) := by decide +kernel
theorem dX3_layAll_22 : decode cX3_layAll 22 = .ok (.iaload, 1) := by decide +kernel
theorem dX3_layAll_23 : decode cX3_layAll 23 = .ok (.invokevirtual 32, 3) := by decide +kernel
theorem dX3_layAll_26 : decode cX3_layAll 26 = .ok (.iinc 1 1, 3) := by decide +kernel
theorem dX3_layAll_29 : decode cX3_layAll 29 = .ok (.goto (-27), 3) := by decide +kernel
theorem dX3_layAll_32 : decode cX3_layAll 32 = .ok (.aload_n 0, 1) := by decide +kernel
theorem dX3_layAll_33 : decode cX3_layAll 33 = .ok (.iconst 0, 1) := by decide +kernel
theorem dX3_layAll_34 : decode cX3_layAll 34 = .ok (.putfield 28, 3) := by decide +kernel
theorem dX3_layAll_37 : decode cX3_layAll 37 = .ok (.return_, 1) := by decide +kernel
theorem dX3_dropCache_0 : decode cX3_dropCache 0 = .ok (.aload_n 0, 1) := by decide +kernel
theorem dX3_dropCache_1 : decode cX3_dropCache 1 = .ok (.getfield 28, 3) := by decide +kernel
theorem dX3_dropCache_4 : decode cX3_dropCache 4 = .ok (.istore_n 1, 1) := by decide +kernel
theorem dX3_dropCache_5 : decode cX3_dropCache 5 = .ok (.aload_n 0, 1) := by decide +kernel
theorem dX3_dropCache_6 : decode cX3_dropCache 6 = .ok (.iconst 0, 1) := by decide +kernel
theorem dX3_dropCache_7 : decode cX3_dropCache 7 = .ok (.putfield 28, 3) := by decide +kernel
theorem dX3_dropCache_10 : decode cX3_dropCache 10 = .ok (.iload_n 1, 1) := by decide +kernel
theorem dX3_dropCache_11 : decode cX3_dropCache 11 = .ok (.ireturn, 1) := by decide +kernel
theorem dX3_placeInCache_0 : decode cX3_placeInCache 0 = .ok (.iconst 0, 1) := by decide +kernel
theorem dX3_placeInCache_1 : decode cX3_placeInCache 1 = .ok (.istore_n 2, 1) := by decide +kernel
theorem dX3_placeInCache_2 : decode cX3_placeInCache 2 = .ok (.iload_n 2, 1) := by decide +kernel
theorem dX3_placeInCache_3 : decode cX3_placeInCache 3 = .ok (.aload_n 0, 1) := by decide +kernel
theorem dX3_placeInCache_4 : decode cX3_placeInCache 4 = .ok (.getfield 28, 3) := by decide +kernel
theorem dX3_placeInCache_7 : decode cX3_placeInCache 7 = .ok (.if_icmp .ge 21, 3) := by decide +kernel
theorem dX3_placeInCache_10 : decode cX3_placeInCache 10 = .ok (.aload_n 0, 1) := by decide +kernel
theorem dX3_placeInCache_11 : decode cX3_placeInCache 11 = .ok (.getfield 15, 3) := by decide +kernel
theorem dX3_placeInCache_14 : decode cX3_placeInCache 14 = .ok (.iload_n 2, 1) := by decide +kernel
theorem dX3_placeInCache_15 : decode cX3_placeInCache 15 = .ok (.iaload, 1) := by decide +kernel
theorem dX3_placeInCache_16 : decode cX3_placeInCache 16 = .ok (.iload_n 1, 1) := by decide +kernel
theorem dX3_placeInCache_17 : decode cX3_placeInCache 17 = .ok (.if_icmp .ne 5, 3) := by decide +kernel
theorem dX3_placeInCache_20 : decode cX3_placeInCache 20 = .ok (.iload_n 2, 1) := by decide +kernel
theorem dX3_placeInCache_21 : decode cX3_placeInCache 21 = .ok (.ireturn, 1) := by decide +kernel
theorem dX3_placeInCache_22 : decode cX3_placeInCache 22 = .ok (.iinc 2 1, 3) := by decide +kernel
theorem dX3_placeInCache_25 : decode cX3_placeInCache 25 = .ok (.goto (-23), 3) := by decide +kernel
theorem dX3_placeInCache_28 : decode cX3_placeInCache 28 = .ok (.iconst (-1), 1) := by decide +kernel
theorem dX3_placeInCache_29 : decode cX3_placeInCache 29 = .ok (.ireturn, 1) := by decide +kernel
theorem dX3_removeFromCache_0 : decode cX3_removeFromCache 0 = .ok (.iload_n 1, 1) := by decide +kernel
theorem dX3_removeFromCache_1 : decode cX3_removeFromCache 1 = .ok (.istore_n 2, 1) := by decide +kernel
theorem dX3_removeFromCache_2 : decode cX3_removeFromCache 2 = .ok (.iload_n 2, 1) := by decide +kernel
theorem dX3_removeFromCache_3 : decode cX3_removeFromCache 3 = .ok (.aload_n 0, 1) := by decide +kernel
theorem dX3_removeFromCache_4 : decode cX3_removeFromCache 4 = .ok (.getfield 28, 3) := by decide +kernel
theorem dX3_removeFromCache_7 : decode cX3_removeFromCache 7 = .ok (.iconst 1, 1) := by decide +kernel
theorem dX3_removeFromCache_8 : decode cX3_removeFromCache 8 = .ok (.isub, 1) := by decide +kernel
theorem dX3_removeFromCache_9 : decode cX3_removeFromCache 9 = .ok (.if_icmp .ge 37, 3) := by decide +kernel
theorem dX3_removeFromCache_12 : decode cX3_removeFromCache 12 = .ok (.aload_n 0, 1) := by decide +kernel
theorem dX3_removeFromCache_13 : decode cX3_removeFromCache 13 = .ok (.getfield 15, 3) := by decide +kernel
theorem dX3_removeFromCache_16 : decode cX3_removeFromCache 16 = .ok (.iload_n 2, 1) := by decide +kernel
theorem dX3_removeFromCache_17 : decode cX3_removeFromCache 17 = .ok (.aload_n 0, 1) := by decide +kernel
theorem dX3_removeFromCache_18 : decode cX3_removeFromCache 18 = .ok (.getfield 15, 3) := by decide +kernel
theorem dX3_removeFromCache_21 : decode cX3_removeFromCache 21 = .ok (.iload_n 2, 1) := by decide +kernel
theorem dX3_removeFromCache_22 : decode cX3_removeFromCache 22 = .ok (.iconst 1, 1) := by decide +kernel
theorem dX3_removeFromCache_23 : decode cX3_removeFromCache 23 = .ok (.iadd, 1) := by decide +kernel
theorem dX3_removeFromCache_24 : decode cX3_removeFromCache 24 = .ok (.iaload, 1) := by decide +kernel
theorem dX3_removeFromCache_25 : decode cX3_removeFromCache 25 = .ok (.iastore, 1) := by decide +kernel
theorem dX3_removeFromCache_26 : decode cX3_removeFromCache 26 = .ok (.aload_n 0, 1) := by decide +kernel
theorem dX3_removeFromCache_27 : decode cX3_removeFromCache 27 = .ok (.getfield 18, 3) := by decide +kernel
theorem dX3_removeFromCache_30 : decode cX3_removeFromCache 30 = .ok (.iload_n 2, 1) := by decide +kernel
theorem dX3_removeFromCache_31 : decode cX3_removeFromCache 31 = .ok (.aload_n 0, 1) := by decide +kernel
theorem dX3_removeFromCache_32 : decode cX3_removeFromCache 32 = .ok (.getfield 18, 3) := by decide +kernel
theorem dX3_removeFromCache_35 : decode cX3_removeFromCache 35 = .ok (.iload_n 2, 1) := by decide +kernel
theorem dX3_removeFromCache_36 : decode cX3_removeFromCache 36 = .ok (.iconst 1, 1) := by decide +kernel
theorem dX3_removeFromCache_37 : decode cX3_removeFromCache 37 = .ok (.iadd, 1) := by decide +kernel
theorem dX3_removeFromCache_38 : decode cX3_removeFromCache 38 = .ok (.iaload, 1) := by decide +kernel
theorem dX3_removeFromCache_39 : decode cX3_removeFromCache 39 = .ok (.iastore, 1) := by decide +kernel
theorem dX3_removeFromCache_40 : decode cX3_removeFromCache 40 = .ok (.iinc 2 1, 3) := by decide +kernel
theorem dX3_removeFromCache_43 : decode cX3_removeFromCache 43 = .ok (.goto (-41), 3) := by decide +kernel
theorem dX3_removeFromCache_46 : decode cX3_removeFromCache 46 = .ok (.aload_n 0, 1) := by decide +kernel
theorem dX3_removeFromCache_47 : decode cX3_removeFromCache 47 = .ok (.dup, 1) := by decide +kernel
theorem dX3_removeFromCache_48 : decode cX3_removeFromCache 48 = .ok (.getfield 28, 3) := by decide +kernel
theorem dX3_removeFromCache_51 : decode cX3_removeFromCache 51 = .ok (.iconst 1, 1) := by decide +kernel
theorem dX3_removeFromCache_52 : decode cX3_removeFromCache 52 = .ok (.isub, 1) := by decide +kernel
theorem dX3_removeFromCache_53 : decode cX3_removeFromCache 53 = .ok (.putfield 28, 3) := by decide +kernel
theorem dX3_removeFromCache_56 : decode cX3_removeFromCache 56 = .ok (.return_, 1) := by decide +kernel
theorem dX3_putOnDisk_0 : decode cX3_putOnDisk 0 = .ok (.iload_n 1, 1) := by decide +kernel
theorem dX3_putOnDisk_1 : decode cX3_putOnDisk 1 = .ok (.ifCond .lt 19, 3) := by decide +kernel
theorem dX3_putOnDisk_4 : decode cX3_putOnDisk 4 = .ok (.iload_n 1, 1) := by decide +kernel
theorem dX3_putOnDisk_5 : decode cX3_putOnDisk 5 = .ok (.aload_n 0, 1) := by decide +kernel
theorem dX3_putOnDisk_6 : decode cX3_putOnDisk 6 = .ok (.getfield 9, 3) := by decide +kernel
theorem dX3_putOnDisk_9 : decode cX3_putOnDisk 9 = .ok (.arraylength, 1) := by decide +kernel
theorem dX3_putOnDisk_10 : decode cX3_putOnDisk 10 = .ok (.if_icmp .ge 10, 3) := by decide +kernel
theorem dX3_putOnDisk_13 : decode cX3_putOnDisk 13 = .ok (.aload_n 0, 1) := by decide +kernel
theorem dX3_putOnDisk_14 : decode cX3_putOnDisk 14 = .ok (.getfield 9, 3) := by decide +kernel
theorem dX3_putOnDisk_17 : decode cX3_putOnDisk 17 = .ok (.iload_n 1, 1) := by decide +kernel
theorem dX3_putOnDisk_18 : decode cX3_putOnDisk 18 = .ok (.iload_n 2, 1) := by decide +kernel
theorem dX3_putOnDisk_19 : decode cX3_putOnDisk 19 = .ok (.iastore, 1) := by decide +kernel
theorem dX3_putOnDisk_20 : decode cX3_putOnDisk 20 = .ok (.return_, 1) := by decide +kernel
theorem dX4_init_0 : decode cX4_init 0 = .ok (.aload_n 0, 1) := by decide +kernel
theorem dX4_init_1 : decode cX4_init 1 = .ok (.invokespecial 3, 3) := by decide +kernel
theorem dX4_init_4 : decode cX4_init 4 = .ok (.aload_n 0, 1) := by decide +kernel
theorem dX4_init_5 : decode cX4_init 5 = .ok (.bipush 16, 2) := by decide +kernel
theorem dX4_init_7 : decode cX4_init 7 = .ok (.newarray .int, 2) := by decide +kernel
theorem dX4_init_9 : decode cX4_init 9 = .ok (.putfield 9, 3) := by decide +kernel
theorem dX4_init_12 : decode cX4_init 12 = .ok (.aload_n 0, 1) := by decide +kernel
theorem dX4_init_13 : decode cX4_init 13 = .ok (.new 15, 3) := by decide +kernel
theorem dX4_init_16 : decode cX4_init 16 = .ok (.dup, 1) := by decide +kernel
theorem dX4_init_17 : decode cX4_init 17 = .ok (.invokespecial 17, 3) := by decide +kernel
theorem dX4_init_20 : decode cX4_init 20 = .ok (.putfield 18, 3) := by decide +kernel
theorem dX4_init_23 : decode cX4_init 23 = .ok (.aload_n 0, 1) := by decide +kernel
theorem dX4_init_24 : decode cX4_init 24 = .ok (.new 15, 3) := by decide +kernel
theorem dX4_init_27 : decode cX4_init 27 = .ok (.dup, 1) := by decide +kernel
theorem dX4_init_28 : decode cX4_init 28 = .ok (.invokespecial 17, 3) := by decide +kernel
theorem dX4_init_31 : decode cX4_init 31 = .ok (.putfield 22, 3) := by decide +kernel
theorem dX4_init_34 : decode cX4_init 34 = .ok (.aload_n 0, 1) := by decide +kernel
theorem dX4_init_35 : decode cX4_init 35 = .ok (.sipush 180, 3) := by decide +kernel
theorem dX4_init_38 : decode cX4_init 38 = .ok (.newarray .int, 2) := by decide +kernel
theorem dX4_init_40 : decode cX4_init 40 = .ok (.putfield 25, 3) := by decide +kernel
theorem dX4_init_43 : decode cX4_init 43 = .ok (.aload_n 0, 1) := by decide +kernel
theorem dX4_init_44 : decode cX4_init 44 = .ok (.bipush 30, 2) := by decide +kernel
theorem dX4_init_46 : decode cX4_init 46 = .ok (.newarray .int, 2) := by decide +kernel
theorem dX4_init_48 : decode cX4_init 48 = .ok (.putfield 28, 3) := by decide +kernel
theorem dX4_init_51 : decode cX4_init 51 = .ok (.aload_n 0, 1) := by decide +kernel
theorem dX4_init_52 : decode cX4_init 52 = .ok (.bipush 30, 2) := by decide +kernel
theorem dX4_init_54 : decode cX4_init 54 = .ok (.newarray .int, 2) := by decide +kernel
theorem dX4_init_56 : decode cX4_init 56 = .ok (.putfield 31, 3) := by decide +kernel
theorem dX4_init_59 : decode cX4_init 59 = .ok (.aload_n 0, 1) := by decide +kernel
theorem dX4_init_60 : decode cX4_init 60 = .ok (.bipush 16, 2) := by decide +kernel
theorem dX4_init_62 : decode cX4_init 62 = .ok (.newarray .int, 2) := by decide +kernel
theorem dX4_init_64 : decode cX4_init 64 = .ok (.putfield 34, 3) := by decide +kernel
theorem dX4_init_67 : decode cX4_init 67 = .ok (.aload_n 0, 1) := by decide +kernel
theorem dX4_init_68 : decode cX4_init 68 = .ok (.aload_n 1, 1) := by decide +kernel
theorem dX4_init_69 : decode cX4_init 69 = .ok (.putfield 37, 3) := by decide +kernel
theorem dX4_init_72 : decode cX4_init 72 = .ok (.ldc 41, 2) := by decide +kernel
theorem dX4_init_74 : decode cX4_init 74 = .ok (.istore_n 2, 1) := by decide +kernel
theorem dX4_init_75 : decode cX4_init 75 = .ok (.iconst 0, 1) := by decide +kernel
theorem dX4_init_76 : decode cX4_init 76 = .ok (.istore_n 3, 1) := by decide +kernel
theorem dX4_init_77 : decode cX4_init 77 = .ok (.iload_n 3, 1) := by decide +kernel
theorem dX4_init_78 : decode cX4_init 78 = .ok (.bipush 16, 2) := by decide +kernel
theorem dX4_init_80 : decode cX4_init 80 = .ok (.if_icmp .ge 66, 3) := by decide +kernel
theorem dX4_init_83 : decode cX4_init 83 = .ok (.iconst 0, 1) := by decide +kernel
theorem dX4_init_84 : decode cX4_init 84 = .ok (.istore 4, 2) := by decide +kernel
theorem dX4_init_86 : decode cX4_init 86 = .ok (.iload 4, 2) := by decide +kernel
theorem dX4_init_88 : decode cX4_init 88 = .ok (.bipush 8, 2) := by decide +kernel
theorem dX4_init_90 : decode cX4_init 90 = .ok (.if_icmp .ge 50, 3) := by decide +kernel
theorem dX4_init_93 : decode cX4_init 93 = .ok (.iload_n 2, 1) := by decide +kernel
theorem dX4_init_94 : decode cX4_init 94 = .ok (.bipush 15, 2) := by decide +kernel
theorem dX4_init_96 : decode cX4_init 96 = .ok (.iushr, 1) := by decide +kernel
theorem dX4_init_97 : decode cX4_init 97 = .ok (.istore 5, 2) := by decide +kernel
theorem dX4_init_99 : decode cX4_init 99 = .ok (.aload_n 0, 1) := by decide +kernel
theorem dX4_init_100 : decode cX4_init 100 = .ok (.getfield 9, 3) := by decide +kernel
theorem dX4_init_103 : decode cX4_init 103 = .ok (.iload_n 3, 1) := by decide +kernel
theorem dX4_init_104 : decode cX4_init 104 = .ok (.aload_n 0, 1) := by decide +kernel
theorem dX4_init_105 : decode cX4_init 105 = .ok (.getfield 9, 3) := by decide +kernel
theorem dX4_init_108 : decode cX4_init 108 = .ok (.iload_n 3, 1) := by decide +kernel
theorem dX4_init_109 : decode cX4_init 109 = .ok (.iaload, 1) := by decide +kernel
theorem dX4_init_110 : decode cX4_init 110 = .ok (.iconst 1, 1) := by decide +kernel
theorem dX4_init_111 : decode cX4_init 111 = .ok (.ishl, 1) := by decide +kernel
theorem dX4_init_112 : decode cX4_init 112 = .ok (.iload 5, 2) := by decide +kernel
theorem dX4_init_114 : decode cX4_init 114 = .ok (.ior, 1) := by decide +kernel
theorem dX4_init_115 : decode cX4_init 115 = .ok (.iastore, 1) := by decide +kernel
theorem dX4_init_116 : decode cX4_init 116 = .ok (.iload_n 2, 1) := by decide +kernel
theorem dX4_init_117 : decode cX4_init 117 = .ok (.iconst 1, 1) := by decide +kernel
theorem dX4_init_118 : decode cX4_init 118 = .ok (.ishl, 1) := by decide +kernel
theorem dX4_init_119 : decode cX4_init 119 = .ok (.ldc 41, 2) := by decide +kernel
theorem dX4_init_121 : decode cX4_init 121 = .ok (.iand, 1) := by decide +kernel
theorem dX4_init_122 : decode cX4_init 122 = .ok (.istore_n 2, 1) := by decide +kernel
theorem dX4_init_123 : decode cX4_init 123 = .ok (.iload 5, 2) := by decide +kernel
theorem dX4_init_125 : decode cX4_init 125 = .ok (.iconst 1, 1) := by decide +kernel
theorem dX4_init_126 : decode cX4_init 126 = .ok (.if_icmp .ne 8, 3) := by decide +kernel
theorem dX4_init_129 : decode cX4_init 129 = .ok (.iload_n 2, 1) := by decide +kernel
theorem dX4_init_130 : decode cX4_init 130 = .ok (.ldc 42, 2) := by decide +kernel
theorem dX4_init_132 : decode cX4_init 132 = .ok (.ixor, 1) := by decide +kernel
theorem dX4_init_133 : decode cX4_init 133 = .ok (.istore_n 2, 1) := by decide +kernel
theorem dX4_init_134 : decode cX4_init 134 = .ok (.iinc 4 1, 3) := by decide +kernel
theorem dX4_init_137 : decode cX4_init 137 = .ok (.goto (-51), 3) := by decide +kernel
theorem dX4_init_140 : decode cX4_init 140 = .ok (.iinc 3 1, 3) := by decide +kernel
theorem dX4_init_143 : decode cX4_init 143 = .ok (.goto (-66), 3) := by decide +kernel
theorem dX4_init_146 : decode cX4_init 146 = .ok (.return_, 1) := by decide +kernel
theorem dX4_bitAt_0 : decode cX4_bitAt 0 = .ok (.iload_n 1, 1) := by decide +kernel
theorem dX4_bitAt_1 : decode cX4_bitAt 1 = .ok (.ifCond .lt 20, 3) := by decide +kernel
theorem dX4_bitAt_4 : decode cX4_bitAt 4 = .ok (.iload_n 1, 1) := by decide +kernel
theorem dX4_bitAt_5 : decode cX4_bitAt 5 = .ok (.aload_n 0, 1) := by decide +kernel
theorem dX4_bitAt_6 : decode cX4_bitAt 6 = .ok (.getfield 43, 3) := by decide +kernel
theorem dX4_bitAt_9 : decode cX4_bitAt 9 = .ok (.if_icmp .ge 12, 3) := by decide +kernel
theorem dX4_bitAt_12 : decode cX4_bitAt 12 = .ok (.aload_n 0, 1) := by decide +kernel
theorem dX4_bitAt_13 : decode cX4_bitAt 13 = .ok (.getfield 25, 3) := by decide +kernel
theorem dX4_bitAt_16 : decode cX4_bitAt 16 = .ok (.iload_n 1, 1) := by decide +kernel
theorem dX4_bitAt_17 : decode cX4_bitAt 17 = .ok (.iaload, 1) := by decide +kernel
theorem dX4_bitAt_18 : decode cX4_bitAt 18 = .ok (.goto 5, 3) := by decide +kernel
theorem dX4_bitAt_21 : decode cX4_bitAt 21 = .ok (.bipush (-2), 2) := by decide +kernel
theorem dX4_bitAt_23 : decode cX4_bitAt 23 = .ok (.ireturn, 1) := by decide +kernel
theorem dX4_findingFromEnd_0 : decode cX4_findingFromEnd 0 = .ok (.iload_n 1, 1) := by decide +kernel
theorem dX4_findingFromEnd_1 : decode cX4_findingFromEnd 1 = .ok (.ifCond .lt 17, 3) := by decide +kernel
theorem dX4_findingFromEnd_4 : decode cX4_findingFromEnd 4 = .ok (.iload_n 1, 1) := by decide +kernel
theorem dX4_findingFromEnd_5 : decode cX4_findingFromEnd 5 = .ok (.bipush 16, 2) := by decide +kernel
theorem dX4_findingFromEnd_7 : decode cX4_findingFromEnd 7 = .ok (.if_icmp .ge 11, 3) := by decide +kernel
theorem dX4_findingFromEnd_10 : decode cX4_findingFromEnd 10 = .ok (.iload_n 1, 1) := by decide +kernel
theorem dX4_findingFromEnd_11 : decode cX4_findingFromEnd 11 = .ok (.aload_n 0, 1) := by decide +kernel
theorem dX4_findingFromEnd_12 : decode cX4_findingFromEnd 12 = .ok (.getfield 47, 3) := by decide +kernel
theorem dX4_findingFromEnd_15 : decode cX4_findingFromEnd 15 = .ok (.if_icmp .lt 6, 3) := by decide +kernel
theorem dX4_findingFromEnd_18 : decode cX4_findingFromEnd 18 = .ok (.bipush (-2), 2) := by decide +kernel
theorem dX4_findingFromEnd_20 : decode cX4_findingFromEnd 20 = .ok (.ireturn, 1) := by decide +kernel
theorem dX4_findingFromEnd_21 : decode cX4_findingFromEnd 21 = .ok (.aload_n 0, 1) := by decide +kernel
theorem dX4_findingFromEnd_22 : decode cX4_findingFromEnd 22 = .ok (.getfield 34, 3) := by decide +kernel
theorem dX4_findingFromEnd_25 : decode cX4_findingFromEnd 25 = .ok (.aload_n 0, 1) := by decide +kernel
theorem dX4_findingFromEnd_26 : decode cX4_findingFromEnd 26 = .ok (.aload_n 0, 1) := by decide +kernel
theorem dX4_findingFromEnd_27 : decode cX4_findingFromEnd 27 = .ok (.getfield 47, 3) := by decide +kernel
theorem dX4_findingFromEnd_30 : decode cX4_findingFromEnd 30 = .ok (.iconst 1, 1) := by decide +kernel
theorem dX4_findingFromEnd_31 : decode cX4_findingFromEnd 31 = .ok (.isub, 1) := by decide +kernel
theorem dX4_findingFromEnd_32 : decode cX4_findingFromEnd 32 = .ok (.iload_n 1, 1) := by decide +kernel
theorem dX4_findingFromEnd_33 : decode cX4_findingFromEnd 33 = .ok (.isub, 1) := by decide +kernel
theorem dX4_findingFromEnd_34 : decode cX4_findingFromEnd 34 = .ok (.invokevirtual 50, 3) := by decide +kernel
theorem dX4_findingFromEnd_37 : decode cX4_findingFromEnd 37 = .ok (.iaload, 1) := by decide +kernel
theorem dX4_findingFromEnd_38 : decode cX4_findingFromEnd 38 = .ok (.ireturn, 1) := by decide +kernel
theorem dX4_addFault_0 : decode cX4_addFault 0 = .ok (.aload_n 0, 1) := by decide +kernel
theorem dX4_addFault_1 : decode cX4_addFault 1 = .ok (.getfield 54, 3) := by decide +kernel
theorem dX4_addFault_4 : decode cX4_addFault 4 = .ok (.bipush 30, 2) := by decide +kernel
theorem dX4_addFault_6 : decode cX4_addFault 6 = .ok (.if_icmp .lt 6, 3) := by decide +kernel
theorem dX4_addFault_9 : decode cX4_addFault 9 = .ok (.bipush (-5), 2) := by decide +kernel
theorem dX4_addFault_11 : decode cX4_addFault 11 = .ok (.ireturn, 1) := by decide +kernel
theorem dX4_addFault_12 : decode cX4_addFault 12 = .ok (.aload_n 0, 1) := by decide +kernel
theorem dX4_addFault_13 : decode cX4_addFault 13 = .ok (.getfield 28, 3) := by decide +kernel
theorem dX4_addFault_16 : decode cX4_addFault 16 = .ok (.aload_n 0, 1) := by decide +kernel
theorem dX4_addFault_17 : decode cX4_addFault 17 = .ok (.getfield 54, 3) := by decide +kernel
theorem dX4_addFault_20 : decode cX4_addFault 20 = .ok (.iload_n 1, 1) := by decide +kernel
theorem dX4_addFault_21 : decode cX4_addFault 21 = .ok (.iastore, 1) := by decide +kernel
theorem dX4_addFault_22 : decode cX4_addFault 22 = .ok (.aload_n 0, 1) := by decide +kernel
theorem dX4_addFault_23 : decode cX4_addFault 23 = .ok (.getfield 31, 3) := by decide +kernel
theorem dX4_addFault_26 : decode cX4_addFault 26 = .ok (.aload_n 0, 1) := by decide +kernel
theorem dX4_addFault_27 : decode cX4_addFault 27 = .ok (.getfield 54, 3) := by decide +kernel
theorem dX4_addFault_30 : decode cX4_addFault 30 = .ok (.iload_n 2, 1) := by decide +kernel
theorem dX4_addFault_31 : decode cX4_addFault 31 = .ok (.iastore, 1) := by decide +kernel
theorem dX4_addFault_32 : decode cX4_addFault 32 = .ok (.aload_n 0, 1) := by decide +kernel
theorem dX4_addFault_33 : decode cX4_addFault 33 = .ok (.dup, 1) := by decide +kernel
theorem dX4_addFault_34 : decode cX4_addFault 34 = .ok (.getfield 54, 3) := by decide +kernel
theorem dX4_addFault_37 : decode cX4_addFault 37 = .ok (.iconst 1, 1) := by decide +kernel
theorem dX4_addFault_38 : decode cX4_addFault 38 = .ok (.iadd, 1) := by decide +kernel
theorem dX4_addFault_39 : decode cX4_addFault 39 = .ok (.putfield 54, 3) := by decide +kernel
theorem dX4_addFault_42 : decode cX4_addFault 42 = .ok (.aload_n 0, 1) := by decide +kernel
theorem dX4_addFault_43 : decode cX4_addFault 43 = .ok (.getfield 54, 3) := by decide +kernel
theorem dX4_addFault_46 : decode cX4_addFault 46 = .ok (.ireturn, 1) := by decide +kernel
theorem dX4_dropFaults_0 : decode cX4_dropFaults 0 = .ok (.aload_n 0, 1) := by decide +kernel
theorem dX4_dropFaults_1 : decode cX4_dropFaults 1 = .ok (.getfield 54, 3) := by decide +kernel
theorem dX4_dropFaults_4 : decode cX4_dropFaults 4 = .ok (.istore_n 1, 1) := by decide +kernel
theorem dX4_dropFaults_5 : decode cX4_dropFaults 5 = .ok (.aload_n 0, 1) := by decide +kernel
theorem dX4_dropFaults_6 : decode cX4_dropFaults 6 = .ok (.iconst 0, 1) := by decide +kernel
theorem dX4_dropFaults_7 : decode cX4_dropFaults 7 = .ok (.putfield 54, 3) := by decide +kernel
theorem dX4_dropFaults_10 : decode cX4_dropFaults 10 = .ok (.iload_n 1, 1) := by decide +kernel
theorem dX4_dropFaults_11 : decode cX4_dropFaults 11 = .ok (.ireturn, 1) := by decide +kernel
theorem dX4_deliver_0 : decode cX4_deliver 0 = .ok (.iconst 0, 1) := by decide +kernel
theorem dX4_deliver_1 : decode cX4_deliver 1 = .ok (.istore_n 2, 1) := by decide +kernel
theorem dX4_deliver_2 : decode cX4_deliver 2 = .ok (.iload_n 2, 1) := by decide +kernel
theorem dX4_deliver_3 : decode cX4_deliver 3 = .ok (.iconst 4, 1) := by decide +kernel
theorem dX4_deliver_4 : decode cX4_deliver 4 = .ok (.if_icmp .ge 19, 3) := by decide +kernel
theorem dX4_deliver_7 : decode cX4_deliver 7 = .ok (.aload_n 0, 1) := by decide +kernel
theorem dX4_deliver_8 : decode cX4_deliver 8 = .ok (.aload_n 1, 1) := by decide +kernel
theorem dX4_deliver_9 : decode cX4_deliver 9 = .ok (.invokevirtual 57, 3) := by decide +kernel
theorem dX4_deliver_12 : decode cX4_deliver 12 = .ok (.ifCond .ne 5, 3) := by decide +kernel
theorem dX4_deliver_15 : decode cX4_deliver 15 = .ok (.iconst 1, 1) := by decide +kernel
theorem dX4_deliver_16 : decode cX4_deliver 16 = .ok (.ireturn, 1) := by decide +kernel
theorem dX4_deliver_17 : decode cX4_deliver 17 = .ok (.iinc 2 1, 3) := by decide +kernel
theorem dX4_deliver_20 : decode cX4_deliver 20 = .ok (.goto (-18), 3) := by decide +kernel
theorem dX4_deliver_23 : decode cX4_deliver 23 = .ok (.aload_n 0, 1) := by decide +kernel
theorem dX4_deliver_24 : decode cX4_deliver 24 = .ok (.dup, 1) := by decide +kernel
theorem dX4_deliver_25 : decode cX4_deliver 25 = .ok (.getfield 61, 3) := by decide +kernel
theorem dX4_deliver_28 : decode cX4_deliver 28 = .ok (.iconst 1, 1) := by decide +kernel
theorem dX4_deliver_29 : decode cX4_deliver 29 = .ok (.iadd, 1) := by decide +kernel
theorem dX4_deliver_30 : decode cX4_deliver 30 = .ok (.putfield 61, 3) := by decide +kernel
theorem dX4_deliver_33 : decode cX4_deliver 33 = .ok (.iconst 0, 1) := by decide +kernel
theorem dX4_deliver_34 : decode cX4_deliver 34 = .ok (.ireturn, 1) := by decide +kernel
theorem dX4_sendOnce_0 : decode cX4_sendOnce 0 = .ok (.aload_n 0, 1) := by decide +kernel
theorem dX4_sendOnce_1 : decode cX4_sendOnce 1 = .ok (.getfield 18, 3) := by decide +kernel
theorem dX4_sendOnce_4 : decode cX4_sendOnce 4 = .ok (.aload_n 1, 1) := by decide +kernel
theorem dX4_sendOnce_5 : decode cX4_sendOnce 5 = .ok (.invokevirtual 64, 3) := by decide +kernel
theorem dX4_sendOnce_8 : decode cX4_sendOnce 8 = .ok (.aload_n 0, 1) := by decide +kernel
theorem dX4_sendOnce_9 : decode cX4_sendOnce 9 = .ok (.getfield 18, 3) := by decide +kernel
theorem dX4_sendOnce_12 : decode cX4_sendOnce 12 = .ok (.aload_n 1, 1) := by decide +kernel
theorem dX4_sendOnce_13 : decode cX4_sendOnce 13 = .ok (.aload_n 1, 1) := by decide +kernel
theorem dX4_sendOnce_14 : decode cX4_sendOnce 14 = .ok (.invokevirtual 68, 3) := by decide +kernel
theorem dX4_sendOnce_17 : decode cX4_sendOnce 17 = .ok (.invokevirtual 72, 3) := by decide +kernel
theorem dX4_sendOnce_20 : decode cX4_sendOnce 20 = .ok (.invokevirtual 75, 3) := by decide +kernel
theorem dX4_sendOnce_23 : decode cX4_sendOnce 23 = .ok (.aload_n 0, 1) := by decide +kernel
theorem dX4_sendOnce_24 : decode cX4_sendOnce 24 = .ok (.invokevirtual 79, 3) := by decide +kernel
theorem dX4_sendOnce_27 : decode cX4_sendOnce 27 = .ok (.aload_n 0, 1) := by decide +kernel
theorem dX4_sendOnce_28 : decode cX4_sendOnce 28 = .ok (.invokevirtual 82, 3) := by decide +kernel
theorem dX4_sendOnce_31 : decode cX4_sendOnce 31 = .ok (.aload_n 0, 1) := by decide +kernel
theorem dX4_sendOnce_32 : decode cX4_sendOnce 32 = .ok (.invokevirtual 85, 3) := by decide +kernel
theorem dX4_sendOnce_35 : decode cX4_sendOnce 35 = .ok (.istore_n 2, 1) := by decide +kernel
theorem dX4_sendOnce_36 : decode cX4_sendOnce 36 = .ok (.aload_n 0, 1) := by decide +kernel
theorem dX4_sendOnce_37 : decode cX4_sendOnce 37 = .ok (.getfield 34, 3) := by decide +kernel
theorem dX4_sendOnce_40 : decode cX4_sendOnce 40 = .ok (.aload_n 0, 1) := by decide +kernel
theorem dX4_sendOnce_41 : decode cX4_sendOnce 41 = .ok (.aload_n 0, 1) := by decide +kernel
theorem dX4_sendOnce_42 : decode cX4_sendOnce 42 = .ok (.getfield 47, 3) := by decide +kernel
theorem dX4_sendOnce_45 : decode cX4_sendOnce 45 = .ok (.invokevirtual 50, 3) := by decide +kernel
theorem dX4_sendOnce_48 : decode cX4_sendOnce 48 = .ok (.iload_n 2, 1) := by decide +kernel
theorem dX4_sendOnce_49 : decode cX4_sendOnce 49 = .ok (.iastore, 1) := by decide +kernel
theorem dX4_sendOnce_50 : decode cX4_sendOnce 50 = .ok (.aload_n 0, 1) := by decide +kernel
theorem dX4_sendOnce_51 : decode cX4_sendOnce 51 = .ok (.dup, 1) := by decide +kernel
theorem dX4_sendOnce_52 : decode cX4_sendOnce 52 = .ok (.getfield 47, 3) := by decide +kernel
theorem dX4_sendOnce_55 : decode cX4_sendOnce 55 = .ok (.iconst 1, 1) := by decide +kernel
theorem dX4_sendOnce_56 : decode cX4_sendOnce 56 = .ok (.iadd, 1) := by decide +kernel
theorem dX4_sendOnce_57 : decode cX4_sendOnce 57 = .ok (.putfield 47, 3) := by decide +kernel
theorem dX4_sendOnce_60 : decode cX4_sendOnce 60 = .ok (.iload_n 2, 1) := by decide +kernel
theorem dX4_sendOnce_61 : decode cX4_sendOnce 61 = .ok (.ifCond .eq 13, 3) := by decide +kernel
theorem dX4_sendOnce_64 : decode cX4_sendOnce 64 = .ok (.aload_n 0, 1) := by decide +kernel
theorem dX4_sendOnce_65 : decode cX4_sendOnce 65 = .ok (.dup, 1) := by decide +kernel
theorem dX4_sendOnce_66 : decode cX4_sendOnce 66 = .ok (.getfield 88, 3) := by decide +kernel
theorem dX4_sendOnce_69 : decode cX4_sendOnce 69 = .ok (.iconst 1, 1) := by decide +kernel
theorem dX4_sendOnce_70 : decode cX4_sendOnce 70 = .ok (.iadd, 1) := by decide +kernel
theorem dX4_sendOnce_71 : decode cX4_sendOnce 71 = .ok (.putfield 88, 3) := by decide +kernel
theorem dX4_sendOnce_74 : decode cX4_sendOnce 74 = .ok (.iload_n 2, 1) := by decide +kernel
theorem dX4_sendOnce_75 : decode cX4_sendOnce 75 = .ok (.ireturn, 1) := by decide +kernel
theorem dX4_placeOfFinding_0 : decode cX4_placeOfFinding 0 = .ok (.iload_n 1, 1) := by decide +kernel
theorem dX4_placeOfFinding_1 : decode cX4_placeOfFinding 1 = .ok (.bipush 15, 2) := by decide +kernel
theorem dX4_placeOfFinding_3 : decode cX4_placeOfFinding 3 = .ok (.iand, 1) := by decide +kernel
theorem dX4_placeOfFinding_4 : decode cX4_placeOfFinding 4 = .ok (.ireturn, 1) := by decide +kernel
theorem dX4_layOnWire_0 : decode cX4_layOnWire 0 = .ok (.aload_n 0, 1) := by decide +kernel
theorem dX4_layOnWire_1 : decode cX4_layOnWire 1 = .ok (.getfield 18, 3) := by decide +kernel
theorem dX4_layOnWire_4 : decode cX4_layOnWire 4 = .ok (.invokevirtual 68, 3) := by decide +kernel
theorem dX4_layOnWire_7 : decode cX4_layOnWire 7 = .ok (.iconst 1, 1) := by decide +kernel
theorem dX4_layOnWire_8 : decode cX4_layOnWire 8 = .ok (.iadd, 1) := by decide +kernel
theorem dX4_layOnWire_9 : decode cX4_layOnWire 9 = .ok (.istore_n 1, 1) := by decide +kernel
theorem dX4_layOnWire_10 : decode cX4_layOnWire 10 = .ok (.iconst 0, 1) := by decide +kernel
theorem dX4_layOnWire_11 : decode cX4_layOnWire 11 = .ok (.istore_n 2, 1) := by decide +kernel
theorem dX4_layOnWire_12 : decode cX4_layOnWire 12 = .ok (.aload_n 0, 1) := by decide +kernel
theorem dX4_layOnWire_13 : decode cX4_layOnWire 13 = .ok (.iconst 0, 1) := by decide +kernel
theorem dX4_layOnWire_14 : decode cX4_layOnWire 14 = .ok (.putfield 43, 3) := by decide +kernel
theorem dX4_layOnWire_17 : decode cX4_layOnWire 17 = .ok (.iconst 0, 1) := by decide +kernel
theorem dX4_layOnWire_18 : decode cX4_layOnWire 18 = .ok (.istore_n 3, 1) := by decide +kernel
theorem dX4_layOnWire_19 : decode cX4_layOnWire 19 = .ok (.iload_n 3, 1) := by decide +kernel
theorem dX4_layOnWire_20 : decode cX4_layOnWire 20 = .ok (.iload_n 1, 1) := by decide +kernel
theorem dX4_layOnWire_21 : decode cX4_layOnWire 21 = .ok (.if_icmp .gt 87, 3) := by decide +kernel
theorem dX4_layOnWire_24 : decode cX4_layOnWire 24 = .ok (.aload_n 0, 1) := by decide +kernel
theorem dX4_layOnWire_25 : decode cX4_layOnWire 25 = .ok (.aload_n 0, 1) := by decide +kernel
theorem dX4_layOnWire_26 : decode cX4_layOnWire 26 = .ok (.getfield 18, 3) := by decide +kernel
theorem dX4_layOnWire_29 : decode cX4_layOnWire 29 = .ok (.iload_n 3, 1) := by decide +kernel
theorem dX4_layOnWire_30 : decode cX4_layOnWire 30 = .ok (.iconst 1, 1) := by decide +kernel
theorem dX4_layOnWire_31 : decode cX4_layOnWire 31 = .ok (.isub, 1) := by decide +kernel
theorem dX4_layOnWire_32 : decode cX4_layOnWire 32 = .ok (.invokevirtual 91, 3) := by decide +kernel
theorem dX4_layOnWire_35 : decode cX4_layOnWire 35 = .ok (.iload_n 3, 1) := by decide +kernel
theorem dX4_layOnWire_36 : decode cX4_layOnWire 36 = .ok (.iconst 1, 1) := by decide +kernel
theorem dX4_layOnWire_37 : decode cX4_layOnWire 37 = .ok (.isub, 1) := by decide +kernel
theorem dX4_layOnWire_38 : decode cX4_layOnWire 38 = .ok (.invokevirtual 94, 3) := by decide +kernel
theorem dX4_layOnWire_41 : decode cX4_layOnWire 41 = .ok (.istore 4, 2) := by decide +kernel
theorem dX4_layOnWire_43 : decode cX4_layOnWire 43 = .ok (.iload_n 3, 1) := by decide +kernel
theorem dX4_layOnWire_44 : decode cX4_layOnWire 44 = .ok (.ifCond .ne 11, 3) := by decide +kernel
theorem dX4_layOnWire_47 : decode cX4_layOnWire 47 = .ok (.sipush 256, 3) := by decide +kernel
theorem dX4_layOnWire_50 : decode cX4_layOnWire 50 = .ok (.istore 4, 2) := by decide +kernel
theorem dX4_layOnWire_52 : decode cX4_layOnWire 52 = .ok (.goto 13, 3) := by decide +kernel
theorem dX4_layOnWire_55 : decode cX4_layOnWire 55 = .ok (.iload_n 3, 1) := by decide +kernel
theorem dX4_layOnWire_56 : decode cX4_layOnWire 56 = .ok (.iload_n 1, 1) := by decide +kernel
theorem dX4_layOnWire_57 : decode cX4_layOnWire 57 = .ok (.if_icmp .ne 8, 3) := by decide +kernel
theorem dX4_layOnWire_60 : decode cX4_layOnWire 60 = .ok (.sipush 257, 3) := by decide +kernel
theorem dX4_layOnWire_63 : decode cX4_layOnWire 63 = .ok (.istore 4, 2) := by decide +kernel
theorem dX4_layOnWire_65 : decode cX4_layOnWire 65 = .ok (.aload_n 0, 1) := by decide +kernel
theorem dX4_layOnWire_66 : decode cX4_layOnWire 66 = .ok (.aload_n 0, 1) := by decide +kernel
theorem dX4_layOnWire_67 : decode cX4_layOnWire 67 = .ok (.getfield 37, 3) := by decide +kernel
theorem dX4_layOnWire_70 : decode cX4_layOnWire 70 = .ok (.iload 4, 2) := by decide +kernel
theorem dX4_layOnWire_72 : decode cX4_layOnWire 72 = .ok (.iload_n 2, 1) := by decide +kernel
theorem dX4_layOnWire_73 : decode cX4_layOnWire 73 = .ok (.invokevirtual 98, 3) := by decide +kernel
theorem dX4_layOnWire_76 : decode cX4_layOnWire 76 = .ok (.invokevirtual 104, 3) := by decide +kernel
theorem dX4_layOnWire_79 : decode cX4_layOnWire 79 = .ok (.iload_n 2, 1) := by decide +kernel
theorem dX4_layOnWire_80 : decode cX4_layOnWire 80 = .ok (.iload 4, 2) := by decide +kernel
theorem dX4_layOnWire_82 : decode cX4_layOnWire 82 = .ok (.sipush 252, 3) := by decide +kernel
theorem dX4_layOnWire_85 : decode cX4_layOnWire 85 = .ok (.if_icmp .lt 7, 3) := by decide +kernel
theorem dX4_layOnWire_88 : decode cX4_layOnWire 88 = .ok (.iconst 1, 1) := by decide +kernel
theorem dX4_layOnWire_89 : decode cX4_layOnWire 89 = .ok (.goto 4, 3) := by decide +kernel
theorem dX4_layOnWire_92 : decode cX4_layOnWire 92 = .ok (.iconst 0, 1) := by decide +kernel
theorem dX4_layOnWire_93 : decode cX4_layOnWire 93 = .ok (.if_icmp .eq 7, 3) := by decide +kernel
theorem dX4_layOnWire_96 : decode cX4_layOnWire 96 = .ok (.iconst 1, 1) := by decide +kernel
theorem dX4_layOnWire_97 : decode cX4_layOnWire 97 = .ok (.goto 4, 3) := by decide +kernel
theorem dX4_layOnWire_100 : decode cX4_layOnWire 100 = .ok (.iconst 0, 1) := by decide +kernel
theorem dX4_layOnWire_101 : decode cX4_layOnWire 101 = .ok (.istore_n 2, 1) := by decide +kernel
theorem dX4_layOnWire_102 : decode cX4_layOnWire 102 = .ok (.iinc 3 1, 3) := by decide +kernel
theorem dX4_layOnWire_105 : decode cX4_layOnWire 105 = .ok (.goto (-86), 3) := by decide +kernel
theorem dX4_layOnWire_108 : decode cX4_layOnWire 108 = .ok (.return_, 1) := by decide +kernel
theorem dX4_scrambled_0 : decode cX4_scrambled 0 = .ok (.iload_n 2, 1) := by decide +kernel
theorem dX4_scrambled_1 : decode cX4_scrambled 1 = .ok (.ifCond .lt 23, 3) := by decide +kernel
theorem dX4_scrambled_4 : decode cX4_scrambled 4 = .ok (.iload_n 2, 1) := by decide +kernel
theorem dX4_scrambled_5 : decode cX4_scrambled 5 = .ok (.aload_n 0, 1) := by decide +kernel
theorem dX4_scrambled_6 : decode cX4_scrambled 6 = .ok (.getfield 9, 3) := by decide +kernel
theorem dX4_scrambled_9 : decode cX4_scrambled 9 = .ok (.arraylength, 1) := by decide +kernel
theorem dX4_scrambled_10 : decode cX4_scrambled 10 = .ok (.if_icmp .ge 14, 3) := by decide +kernel
theorem dX4_scrambled_13 : decode cX4_scrambled 13 = .ok (.iload_n 1, 1) := by decide +kernel
theorem dX4_scrambled_14 : decode cX4_scrambled 14 = .ok (.aload_n 0, 1) := by decide +kernel
theorem dX4_scrambled_15 : decode cX4_scrambled 15 = .ok (.getfield 9, 3) := by decide +kernel
theorem dX4_scrambled_18 : decode cX4_scrambled 18 = .ok (.iload_n 2, 1) := by decide +kernel
theorem dX4_scrambled_19 : decode cX4_scrambled 19 = .ok (.iaload, 1) := by decide +kernel
theorem dX4_scrambled_20 : decode cX4_scrambled 20 = .ok (.ixor, 1) := by decide +kernel
theorem dX4_scrambled_21 : decode cX4_scrambled 21 = .ok (.goto 4, 3) := by decide +kernel
theorem dX4_scrambled_24 : decode cX4_scrambled 24 = .ok (.iload_n 1, 1) := by decide +kernel
theorem dX4_scrambled_25 : decode cX4_scrambled 25 = .ok (.ireturn, 1) := by decide +kernel
theorem dX4_putBits_0 : decode cX4_putBits 0 = .ok (.bipush 9, 2) := by decide +kernel
theorem dX4_putBits_2 : decode cX4_putBits 2 = .ok (.istore_n 2, 1) := by decide +kernel
theorem dX4_putBits_3 : decode cX4_putBits 3 = .ok (.iload_n 2, 1) := by decide +kernel
theorem dX4_putBits_4 : decode cX4_putBits 4 = .ok (.ifCond .lt 45, 3) := by decide +kernel
theorem dX4_putBits_7 : decode cX4_putBits 7 = .ok (.aload_n 0, 1) := by decide +kernel
theorem dX4_putBits_8 : decode cX4_putBits 8 = .ok (.getfield 43, 3) := by decide +kernel
theorem dX4_putBits_11 : decode cX4_putBits 11 = .ok (.aload_n 0, 1) := by decide +kernel
theorem dX4_putBits_12 : decode cX4_putBits 12 = .ok (.getfield 25, 3) := by decide +kernel
theorem dX4_putBits_15 : decode cX4_putBits 15 = .ok (.arraylength, 1) := by decide +kernel
theorem dX4_putBits_16 : decode cX4_putBits 16 = .ok (.if_icmp .ge 27, 3) := by decide +kernel
theorem dX4_putBits_19 : decode cX4_putBits 19 = .ok (.aload_n 0, 1) := by decide +kernel
theorem dX4_putBits_20 : decode cX4_putBits 20 = .ok (.getfield 25, 3) := by decide +kernel
theorem dX4_putBits_23 : decode cX4_putBits 23 = .ok (.aload_n 0, 1) := by decide +kernel
theorem dX4_putBits_24 : decode cX4_putBits 24 = .ok (.getfield 43, 3) := by decide +kernel
theorem dX4_putBits_27 : decode cX4_putBits 27 = .ok (.iload_n 1, 1) := by decide +kernel
theorem dX4_putBits_28 : decode cX4_putBits 28 = .ok (.iload_n 2, 1) := by decide +kernel
theorem dX4_putBits_29 : decode cX4_putBits 29 = .ok (.iushr, 1) := by decide +kernel
theorem dX4_putBits_30 : decode cX4_putBits 30 = .ok (.iconst 1, 1) := by decide +kernel
theorem dX4_putBits_31 : decode cX4_putBits 31 = .ok (.iand, 1) := by decide +kernel
theorem dX4_putBits_32 : decode cX4_putBits 32 = .ok (.iastore, 1) := by decide +kernel
theorem dX4_putBits_33 : decode cX4_putBits 33 = .ok (.aload_n 0, 1) := by decide +kernel
theorem dX4_putBits_34 : decode cX4_putBits 34 = .ok (.dup, 1) := by decide +kernel
theorem dX4_putBits_35 : decode cX4_putBits 35 = .ok (.getfield 43, 3) := by decide +kernel
theorem dX4_putBits_38 : decode cX4_putBits 38 = .ok (.iconst 1, 1) := by decide +kernel
theorem dX4_putBits_39 : decode cX4_putBits 39 = .ok (.iadd, 1) := by decide +kernel
theorem dX4_putBits_40 : decode cX4_putBits 40 = .ok (.putfield 43, 3) := by decide +kernel
theorem dX4_putBits_43 : decode cX4_putBits 43 = .ok (.iinc 2 (-1), 3) := by decide +kernel
theorem dX4_putBits_46 : decode cX4_putBits 46 = .ok (.goto (-43), 3) := by decide +kernel
theorem dX4_putBits_49 : decode cX4_putBits 49 = .ok (.return_, 1) := by decide +kernel
theorem dX4_turnFaultyBits_0 : decode cX4_turnFaultyBits 0 = .ok (.iconst 0, 1) := by decide +kernel
theorem dX4_turnFaultyBits_1 : decode cX4_turnFaultyBits 1 = .ok (.istore_n 1, 1) := by decide +kernel
theorem dX4_turnFaultyBits_2 : decode cX4_turnFaultyBits 2 = .ok (.iload_n 1, 1) := by decide +kernel
theorem dX4_turnFaultyBits_3 : decode cX4_turnFaultyBits 3 = .ok (.aload_n 0, 1) := by decide +kernel
theorem dX4_turnFaultyBits_4 : decode cX4_turnFaultyBits 4 = .ok (.getfield 54, 3) := by decide +kernel
theorem dX4_turnFaultyBits_7 : decode cX4_turnFaultyBits 7 = .ok (.if_icmp .ge 55, 3) := by decide +kernel
theorem dX4_turnFaultyBits_10 : decode cX4_turnFaultyBits 10 = .ok (.aload_n 0, 1) := by decide +kernel
theorem dX4_turnFaultyBits_11 : decode cX4_turnFaultyBits 11 = .ok (.getfield 28, 3) := by decide +kernel
theorem dX4_turnFaultyBits_14 : decode cX4_turnFaultyBits 14 = .ok (.iload_n 1, 1) := by decide +kernel
theorem dX4_turnFaultyBits_15 : decode cX4_turnFaultyBits 15 = .ok (.iaload, 1) := by decide +kernel
theorem dX4_turnFaultyBits_16 : decode cX4_turnFaultyBits 16 = .ok (.aload_n 0, 1) := by decide +kernel
theorem dX4_turnFaultyBits_17 : decode cX4_turnFaultyBits 17 = .ok (.getfield 47, 3) := by decide +kernel
theorem dX4_turnFaultyBits_20 : decode cX4_turnFaultyBits 20 = .ok (.if_icmp .ne 36, 3) := by decide +kernel
theorem dX4_turnFaultyBits_23 : decode cX4_turnFaultyBits 23 = .ok (.aload_n 0, 1) := by decide +kernel
theorem dX4_turnFaultyBits_24 : decode cX4_turnFaultyBits 24 = .ok (.getfield 43, 3) := by decide +kernel
theorem dX4_turnFaultyBits_27 : decode cX4_turnFaultyBits 27 = .ok (.ifCond .le 29, 3) := by decide +kernel
theorem dX4_turnFaultyBits_30 : decode cX4_turnFaultyBits 30 = .ok (.aload_n 0, 1) := by decide +kernel
theorem dX4_turnFaultyBits_31 : decode cX4_turnFaultyBits 31 = .ok (.getfield 31, 3) := by decide +kernel
theorem dX4_turnFaultyBits_34 : decode cX4_turnFaultyBits 34 = .ok (.iload_n 1, 1) := by decide +kernel
theorem dX4_turnFaultyBits_35 : decode cX4_turnFaultyBits 35 = .ok (.iaload, 1) := by decide +kernel
theorem dX4_turnFaultyBits_36 : decode cX4_turnFaultyBits 36 = .ok (.aload_n 0, 1) := by decide +kernel
theorem dX4_turnFaultyBits_37 : decode cX4_turnFaultyBits 37 = .ok (.getfield 43, 3) := by decide +kernel
theorem dX4_turnFaultyBits_40 : decode cX4_turnFaultyBits 40 = .ok (.irem, 1) := by decide +kernel
theorem dX4_turnFaultyBits_41 : decode cX4_turnFaultyBits 41 = .ok (.istore_n 2, 1) := by decide +kernel
theorem dX4_turnFaultyBits_42 : decode cX4_turnFaultyBits 42 = .ok (.aload_n 0, 1) := by decide +kernel
theorem dX4_turnFaultyBits_43 : decode cX4_turnFaultyBits 43 = .ok (.getfield 25, 3) := by decide +kernel
theorem dX4_turnFaultyBits_46 : decode cX4_turnFaultyBits 46 = .ok (.iload_n 2, 1) := by decide +kernel
theorem dX4_turnFaultyBits_47 : decode cX4_turnFaultyBits 47 = .ok (.iconst 1, 1) := by decide +kernel
theorem dX4_turnFaultyBits_48 : decode cX4_turnFaultyBits 48 = .ok (.aload_n 0, 1) := by decide +kernel
theorem dX4_turnFaultyBits_49 : decode cX4_turnFaultyBits 49 = .ok (.getfield 25, 3) := by decide +kernel
theorem dX4_turnFaultyBits_52 : decode cX4_turnFaultyBits 52 = .ok (.iload_n 2, 1) := by decide +kernel
theorem dX4_turnFaultyBits_53 : decode cX4_turnFaultyBits 53 = .ok (.iaload, 1) := by decide +kernel
theorem dX4_turnFaultyBits_54 : decode cX4_turnFaultyBits 54 = .ok (.isub, 1) := by decide +kernel
theorem dX4_turnFaultyBits_55 : decode cX4_turnFaultyBits 55 = .ok (.iastore, 1) := by decide +kernel
theorem dX4_turnFaultyBits_56 : decode cX4_turnFaultyBits 56 = .ok (.iinc 1 1, 3) := by decide +kernel
theorem dX4_turnFaultyBits_59 : decode cX4_turnFaultyBits 59 = .ok (.goto (-57), 3) := by decide +kernel
theorem dX4_turnFaultyBits_62 : decode cX4_turnFaultyBits 62 = .ok (.return_, 1) := by decide +kernel
theorem dX4_wordAt_0 : decode cX4_wordAt 0 = .ok (.iload_n 1, 1) := by decide +kernel
theorem dX4_wordAt_1 : decode cX4_wordAt 1 = .ok (.bipush 10, 2) := by decide +kernel
theorem dX4_wordAt_3 : decode cX4_wordAt 3 = .ok (.imul, 1) := by decide +kernel
theorem dX4_wordAt_4 : decode cX4_wordAt 4 = .ok (.istore_n 2, 1) := by decide +kernel
theorem dX4_wordAt_5 : decode cX4_wordAt 5 = .ok (.iload_n 2, 1) := by decide +kernel
theorem dX4_wordAt_6 : decode cX4_wordAt 6 = .ok (.ifCond .lt 15, 3) := by decide +kernel
theorem dX4_wordAt_9 : decode cX4_wordAt 9 = .ok (.iload_n 2, 1) := by decide +kernel
theorem dX4_wordAt_10 : decode cX4_wordAt 10 = .ok (.bipush 10, 2) := by decide +kernel
theorem dX4_wordAt_12 : decode cX4_wordAt 12 = .ok (.iadd, 1) := by decide +kernel
theorem dX4_wordAt_13 : decode cX4_wordAt 13 = .ok (.aload_n 0, 1) := by decide +kernel
theorem dX4_wordAt_14 : decode cX4_wordAt 14 = .ok (.getfield 25, 3) := by decide +kernel
theorem dX4_wordAt_17 : decode cX4_wordAt 17 = .ok (.arraylength, 1) := by decide +kernel
theorem dX4_wordAt_18 : decode cX4_wordAt 18 = .ok (.if_icmp .le 5, 3) := by decide +kernel
theorem dX4_wordAt_21 : decode cX4_wordAt 21 = .ok (.iconst (-1), 1) := by decide +kernel
theorem dX4_wordAt_22 : decode cX4_wordAt 22 = .ok (.ireturn, 1) := by decide +kernel
theorem dX4_wordAt_23 : decode cX4_wordAt 23 = .ok (.iconst 0, 1) := by decide +kernel
theorem dX4_wordAt_24 : decode cX4_wordAt 24 = .ok (.istore_n 3, 1) := by decide +kernel
theorem dX4_wordAt_25 : decode cX4_wordAt 25 = .ok (.iload_n 2, 1) := by decide +kernel
theorem dX4_wordAt_26 : decode cX4_wordAt 26 = .ok (.istore 4, 2) := by decide +kernel
theorem dX4_wordAt_28 : decode cX4_wordAt 28 = .ok (.iload 4, 2) := by decide +kernel
theorem dX4_wordAt_30 : decode cX4_wordAt 30 = .ok (.iload_n 2, 1) := by decide +kernel
theorem dX4_wordAt_31 : decode cX4_wordAt 31 = .ok (.bipush 10, 2) := by decide +kernel
theorem dX4_wordAt_33 : decode cX4_wordAt 33 = .ok (.iadd, 1) := by decide +kernel
theorem dX4_wordAt_34 : decode cX4_wordAt 34 = .ok (.if_icmp .ge 21, 3) := by decide +kernel
theorem dX4_wordAt_37 : decode cX4_wordAt 37 = .ok (.iload_n 3, 1) := by decide +kernel
theorem dX4_wordAt_38 : decode cX4_wordAt 38 = .ok (.iconst 1, 1) := by decide +kernel
theorem dX4_wordAt_39 : decode cX4_wordAt 39 = .ok (.ishl, 1) := by decide +kernel
theorem dX4_wordAt_40 : decode cX4_wordAt 40 = .ok (.aload_n 0, 1) := by decide +kernel
theorem dX4_wordAt_41 : decode cX4_wordAt 41 = .ok (.getfield 25, 3) := by decide +kernel
theorem dX4_wordAt_44 : decode cX4_wordAt 44 = .ok (.iload 4, 2) := by decide +kernel
theorem dX4_wordAt_46 : decode cX4_wordAt 46 = .ok (.iaload, 1) := by decide +kernel
theorem dX4_wordAt_47 : decode cX4_wordAt 47 = .ok (.ior, 1) := by decide +kernel
theorem dX4_wordAt_48 : decode cX4_wordAt 48 = .ok (.istore_n 3, 1) := by decide +kernel
theorem dX4_wordAt_49 : decode cX4_wordAt 49 = .ok (.iinc 4 1, 3) := by decide +kernel
theorem dX4_wordAt_52 : decode cX4_wordAt 52 = .ok (.goto (-24), 3) := by decide +kernel
theorem dX4_wordAt_55 : decode cX4_wordAt 55 = .ok (.iload_n 3, 1) := by decide +kernel
theorem dX4_wordAt_56 : decode cX4_wordAt 56 = .ok (.ireturn, 1) := by decide +kernel
theorem dX4_receive_0 : decode cX4_receive 0 = .ok (.aload_n 0, 1) := by decide +kernel
theorem dX4_receive_1 : decode cX4_receive 1 = .ok (.getfield 43, 3) := by decide +kernel
theorem dX4_receive_4 : decode cX4_receive 4 = .ok (.bipush 10, 2) := by decide +kernel
theorem dX4_receive_6 : decode cX4_receive 6 = .ok (.idiv, 1) := by decide +kernel
theorem dX4_receive_7 : decode cX4_receive 7 = .ok (.iconst 1, 1) := by decide +kernel
theorem dX4_receive_8 : decode cX4_receive 8 = .ok (.isub, 1) := by decide +kernel
theorem dX4_receive_9 : decode cX4_receive 9 = .ok (.istore_n 1, 1) := by decide +kernel
theorem dX4_receive_10 : decode cX4_receive 10 = .ok (.iconst 0, 1) := by decide +kernel
theorem dX4_receive_11 : decode cX4_receive 11 = .ok (.istore_n 2, 1) := by decide +kernel
theorem dX4_receive_12 : decode cX4_receive 12 = .ok (.aload_n 0, 1) := by decide +kernel
theorem dX4_receive_13 : decode cX4_receive 13 = .ok (.getfield 22, 3) := by decide +kernel
theorem dX4_receive_16 : decode cX4_receive 16 = .ok (.invokevirtual 107, 3) := by decide +kernel
theorem dX4_receive_19 : decode cX4_receive 19 = .ok (.iconst 0, 1) := by decide +kernel
theorem dX4_receive_20 : decode cX4_receive 20 = .ok (.istore_n 3, 1) := by decide +kernel
theorem dX4_receive_21 : decode cX4_receive 21 = .ok (.iload_n 3, 1) := by decide +kernel
theorem dX4_receive_22 : decode cX4_receive 22 = .ok (.iload_n 1, 1) := by decide +kernel
theorem dX4_receive_23 : decode cX4_receive 23 = .ok (.if_icmp .gt 94, 3) := by decide +kernel
theorem dX4_receive_26 : decode cX4_receive 26 = .ok (.aload_n 0, 1) := by decide +kernel
theorem dX4_receive_27 : decode cX4_receive 27 = .ok (.getfield 37, 3) := by decide +kernel
theorem dX4_receive_30 : decode cX4_receive 30 = .ok (.aload_n 0, 1) := by decide +kernel
theorem dX4_receive_31 : decode cX4_receive 31 = .ok (.iload_n 3, 1) := by decide +kernel
theorem dX4_receive_32 : decode cX4_receive 32 = .ok (.invokevirtual 110, 3) := by decide +kernel
theorem dX4_receive_35 : decode cX4_receive 35 = .ok (.iload_n 2, 1) := by decide +kernel
theorem dX4_receive_36 : decode cX4_receive 36 = .ok (.invokevirtual 113, 3) := by decide +kernel
theorem dX4_receive_39 : decode cX4_receive 39 = .ok (.istore 4, 2) := by decide +kernel
theorem dX4_receive_41 : decode cX4_receive 41 = .ok (.iload 4, 2) := by decide +kernel
theorem dX4_receive_43 : decode cX4_receive 43 = .ok (.ifCond .ge 7, 3) := by decide +kernel
theorem dX4_receive_46 : decode cX4_receive 46 = .ok (.iload 4, 2) := by decide +kernel
theorem dX4_receive_48 : decode cX4_receive 48 = .ok (.ineg, 1) := by decide +kernel
theorem dX4_receive_49 : decode cX4_receive 49 = .ok (.ireturn, 1) := by decide +kernel
theorem dX4_receive_50 : decode cX4_receive 50 = .ok (.aload_n 0, 1) := by decide +kernel
theorem dX4_receive_51 : decode cX4_receive 51 = .ok (.iload 4, 2) := by decide +kernel
theorem dX4_receive_53 : decode cX4_receive 53 = .ok (.iload_n 3, 1) := by decide +kernel
theorem dX4_receive_54 : decode cX4_receive 54 = .ok (.iload_n 1, 1) := by decide +kernel
theorem dX4_receive_55 : decode cX4_receive 55 = .ok (.invokevirtual 116, 3) := by decide +kernel
theorem dX4_receive_58 : decode cX4_receive 58 = .ok (.ifCond .eq 5, 3) := by decide +kernel
theorem dX4_receive_61 : decode cX4_receive 61 = .ok (.iconst 3, 1) := by decide +kernel
theorem dX4_receive_62 : decode cX4_receive 62 = .ok (.ireturn, 1) := by decide +kernel
theorem dX4_receive_63 : decode cX4_receive 63 = .ok (.iload_n 2, 1) := by decide +kernel
theorem dX4_receive_64 : decode cX4_receive 64 = .ok (.iload 4, 2) := by decide +kernel
theorem dX4_receive_66 : decode cX4_receive 66 = .ok (.sipush 252, 3) := by decide +kernel
theorem dX4_receive_69 : decode cX4_receive 69 = .ok (.if_icmp .lt 7, 3) := by decide +kernel
theorem dX4_receive_72 : decode cX4_receive 72 = .ok (.iconst 1, 1) := by decide +kernel
theorem dX4_receive_73 : decode cX4_receive 73 = .ok (.goto 4, 3) := by decide +kernel
theorem dX4_receive_76 : decode cX4_receive 76 = .ok (.iconst 0, 1) := by decide +kernel
theorem dX4_receive_77 : decode cX4_receive 77 = .ok (.if_icmp .eq 7, 3) := by decide +kernel
theorem dX4_receive_80 : decode cX4_receive 80 = .ok (.iconst 1, 1) := by decide +kernel
theorem dX4_receive_81 : decode cX4_receive 81 = .ok (.goto 4, 3) := by decide +kernel
theorem dX4_receive_84 : decode cX4_receive 84 = .ok (.iconst 0, 1) := by decide +kernel
theorem dX4_receive_85 : decode cX4_receive 85 = .ok (.istore_n 2, 1) := by decide +kernel
theorem dX4_receive_86 : decode cX4_receive 86 = .ok (.iload_n 3, 1) := by decide +kernel
theorem dX4_receive_87 : decode cX4_receive 87 = .ok (.ifCond .le 24, 3) := by decide +kernel
theorem dX4_receive_90 : decode cX4_receive 90 = .ok (.iload_n 3, 1) := by decide +kernel
theorem dX4_receive_91 : decode cX4_receive 91 = .ok (.iload_n 1, 1) := by decide +kernel
theorem dX4_receive_92 : decode cX4_receive 92 = .ok (.if_icmp .ge 19, 3) := by decide +kernel
theorem dX4_receive_95 : decode cX4_receive 95 = .ok (.aload_n 0, 1) := by decide +kernel
theorem dX4_receive_96 : decode cX4_receive 96 = .ok (.getfield 22, 3) := by decide +kernel
theorem dX4_receive_99 : decode cX4_receive 99 = .ok (.aload_n 0, 1) := by decide +kernel
theorem dX4_receive_100 : decode cX4_receive 100 = .ok (.iload 4, 2) := by decide +kernel
theorem dX4_receive_102 : decode cX4_receive 102 = .ok (.iload_n 3, 1) := by decide +kernel
theorem dX4_receive_103 : decode cX4_receive 103 = .ok (.iconst 1, 1) := by decide +kernel
theorem dX4_receive_104 : decode cX4_receive 104 = .ok (.isub, 1) := by decide +kernel
theorem dX4_receive_105 : decode cX4_receive 105 = .ok (.invokevirtual 94, 3) := by decide +kernel
theorem dX4_receive_108 : decode cX4_receive 108 = .ok (.invokevirtual 120, 3) := by decide +kernel
theorem dX4_receive_111 : decode cX4_receive 111 = .ok (.iinc 3 1, 3) := by decide +kernel
theorem dX4_receive_114 : decode cX4_receive 114 = .ok (.goto (-93), 3) := by decide +kernel
theorem dX4_receive_117 : decode cX4_receive 117 = .ok (.aload_n 0, 1) := by decide +kernel
theorem dX4_receive_118 : decode cX4_receive 118 = .ok (.getfield 22, 3) := by decide +kernel
theorem dX4_receive_121 : decode cX4_receive 121 = .ok (.invokevirtual 68, 3) := by decide +kernel
theorem dX4_receive_124 : decode cX4_receive 124 = .ok (.iconst 4, 1) := by decide +kernel
theorem dX4_receive_125 : decode cX4_receive 125 = .ok (.isub, 1) := by decide +kernel
theorem dX4_receive_126 : decode cX4_receive 126 = .ok (.istore_n 3, 1) := by decide +kernel
theorem dX4_receive_127 : decode cX4_receive 127 = .ok (.aload_n 0, 1) := by decide +kernel
theorem dX4_receive_128 : decode cX4_receive 128 = .ok (.getfield 22, 3) := by decide +kernel
theorem dX4_receive_131 : decode cX4_receive 131 = .ok (.iload_n 3, 1) := by decide +kernel
theorem dX4_receive_132 : decode cX4_receive 132 = .ok (.invokevirtual 72, 3) := by decide +kernel
theorem dX4_receive_135 : decode cX4_receive 135 = .ok (.aload_n 0, 1) := by decide +kernel
theorem dX4_receive_136 : decode cX4_receive 136 = .ok (.getfield 22, 3) := by decide +kernel
theorem dX4_receive_139 : decode cX4_receive 139 = .ok (.iload_n 3, 1) := by decide +kernel
theorem dX4_receive_140 : decode cX4_receive 140 = .ok (.invokevirtual 123, 3) := by decide +kernel
theorem dX4_receive_143 : decode cX4_receive 143 = .ok (.if_icmp .ne 7, 3) := by decide +kernel
theorem dX4_receive_146 : decode cX4_receive 146 = .ok (.iconst 0, 1) := by decide +kernel
theorem dX4_receive_147 : decode cX4_receive 147 = .ok (.goto 4, 3) := by decide +kernel
theorem dX4_receive_150 : decode cX4_receive 150 = .ok (.iconst 4, 1) := by decide +kernel
theorem dX4_receive_151 : decode cX4_receive 151 = .ok (.ireturn, 1) := by decide +kernel
theorem dX4_isMisplaced_0 : decode cX4_isMisplaced 0 = .ok (.iload_n 2, 1) := by decide +kernel
theorem dX4_isMisplaced_1 : decode cX4_isMisplaced 1 = .ok (.ifCond .ne 16, 3) := by decide +kernel
theorem dX4_isMisplaced_4 : decode cX4_isMisplaced 4 = .ok (.iload_n 1, 1) := by decide +kernel
theorem dX4_isMisplaced_5 : decode cX4_isMisplaced 5 = .ok (.sipush 256, 3) := by decide +kernel
theorem dX4_isMisplaced_8 : decode cX4_isMisplaced 8 = .ok (.if_icmp .eq 7, 3) := by decide +kernel
theorem dX4_isMisplaced_11 : decode cX4_isMisplaced 11 = .ok (.iconst 1, 1) := by decide +kernel
theorem dX4_isMisplaced_12 : decode cX4_isMisplaced 12 = .ok (.goto 4, 3) := by decide +kernel
theorem dX4_isMisplaced_15 : decode cX4_isMisplaced 15 = .ok (.iconst 0, 1) := by decide +kernel
theorem dX4_isMisplaced_16 : decode cX4_isMisplaced 16 = .ok (.ireturn, 1) := by decide +kernel
theorem dX4_isMisplaced_17 : decode cX4_isMisplaced 17 = .ok (.iload_n 2, 1) := by decide +kernel
theorem dX4_isMisplaced_18 : decode cX4_isMisplaced 18 = .ok (.iload_n 3, 1) := by decide +kernel
theorem dX4_isMisplaced_19 : decode cX4_isMisplaced 19 = .ok (.if_icmp .ne 18, 3) := by decide +kernel
theorem dX4_isMisplaced_22 : decode cX4_isMisplaced 22 = .ok (.iload_n 1, 1) := by decide +kernel
theorem dX4_isMisplaced_23 : decode cX4_isMisplaced 23 = .ok (.sipush 257, 3) := by decide +kernel
theorem dX4_isMisplaced_26 : decode cX4_isMisplaced 26 = .ok (.if_icmp .eq 7, 3) := by decide +kernel
theorem dX4_isMisplaced_29 : decode cX4_isMisplaced 29 = .ok (.iconst 1, 1) := by decide +kernel
theorem dX4_isMisplaced_30 : decode cX4_isMisplaced 30 = .ok (.goto 19, 3) := by decide +kernel
theorem dX4_isMisplaced_33 : decode cX4_isMisplaced 33 = .ok (.iconst 0, 1) := by decide +kernel
theorem dX4_isMisplaced_34 : decode cX4_isMisplaced 34 = .ok (.goto 15, 3) := by decide +kernel
theorem dX4_isMisplaced_37 : decode cX4_isMisplaced 37 = .ok (.iload_n 1, 1) := by decide +kernel
theorem dX4_isMisplaced_38 : decode cX4_isMisplaced 38 = .ok (.sipush 256, 3) := by decide +kernel
theorem dX4_isMisplaced_41 : decode cX4_isMisplaced 41 = .ok (.if_icmp .lt 7, 3) := by decide +kernel
theorem dX4_isMisplaced_44 : decode cX4_isMisplaced 44 = .ok (.iconst 1, 1) := by decide +kernel
theorem dX4_isMisplaced_45 : decode cX4_isMisplaced 45 = .ok (.goto 4, 3) := by decide +kernel
theorem dX4_isMisplaced_48 : decode cX4_isMisplaced 48 = .ok (.iconst 0, 1) := by decide +kernel
theorem dX4_isMisplaced_49 : decode cX4_isMisplaced 49 = .ok (.ireturn, 1) := by decide +kernel
theorem dX5_init_0 : decode cX5_init 0 = .ok (.aload_n 0, 1) := by decide +kernel
theorem dX5_init_1 : decode cX5_init 1 = .ok (.invokespecial 1, 3) := by decide +kernel
theorem dX5_init_4 : decode cX5_init 4 = .ok (.aload_n 0, 1) := by decide +kernel
theorem dX5_init_5 : decode cX5_init 5 = .ok (.new 7, 3) := by decide +kernel
theorem dX5_init_8 : decode cX5_init 8 = .ok (.dup, 1) := by decide +kernel
theorem dX5_init_9 : decode cX5_init 9 = .ok (.invokespecial 9, 3) := by decide +kernel
theorem dX5_init_12 : decode cX5_init 12 = .ok (.putfield 10, 3) := by decide +kernel
theorem dX5_init_15 : decode cX5_init 15 = .ok (.aload_n 0, 1) := by decide +kernel
theorem dX5_init_16 : decode cX5_init 16 = .ok (.new 16, 3) := by decide +kernel
theorem dX5_init_19 : decode cX5_init 19 = .ok (.dup, 1) := by decide +kernel
theorem dX5_init_20 : decode cX5_init 20 = .ok (.aload_n 0, 1) := by decide +kernel
theorem dX5_init_21 : decode cX5_init 21 = .ok (.getfield 10, 3) := by decide +kernel
theorem dX5_init_24 : decode cX5_init 24 = .ok (.invokespecial 18, 3) := by decide +kernel
theorem dX5_init_27 : decode cX5_init 27 = .ok (.putfield 21, 3) := by decide +kernel
theorem dX5_init_30 : decode cX5_init 30 = .ok (.aload_n 0, 1) := by decide +kernel
theorem dX5_init_31 : decode cX5_init 31 = .ok (.new 25, 3) := by decide +kernel
theorem dX5_init_34 : decode cX5_init 34 = .ok (.dup, 1) := by decide +kernel
theorem dX5_init_35 : decode cX5_init 35 = .ok (.invokespecial 27, 3) := by decide +kernel
theorem dX5_init_38 : decode cX5_init 38 = .ok (.putfield 28, 3) := by decide +kernel
theorem dX5_init_41 : decode cX5_init 41 = .ok (.aload_n 0, 1) := by decide +kernel
theorem dX5_init_42 : decode cX5_init 42 = .ok (.new 32, 3) := by decide +kernel
theorem dX5_init_45 : decode cX5_init 45 = .ok (.dup, 1) := by decide +kernel
theorem dX5_init_46 : decode cX5_init 46 = .ok (.invokespecial 34, 3) := by decide +kernel
theorem dX5_init_49 : decode cX5_init 49 = .ok (.putfield 35, 3) := by decide +kernel
theorem dX5_init_52 : decode cX5_init 52 = .ok (.aload_n 0, 1) := by decide +kernel
theorem dX5_init_53 : decode cX5_init 53 = .ok (.new 32, 3) := by decide +kernel
theorem dX5_init_56 : decode cX5_init 56 = .ok (.dup, 1) := by decide +kernel
theorem dX5_init_57 : decode cX5_init 57 = .ok (.invokespecial 34, 3) := by decide +kernel
theorem dX5_init_60 : decode cX5_init 60 = .ok (.putfield 39, 3) := by decide +kernel
theorem dX5_init_63 : decode cX5_init 63 = .ok (.aload_n 0, 1) := by decide +kernel
theorem dX5_init_64 : decode cX5_init 64 = .ok (.bipush 8, 2) := by decide +kernel
theorem dX5_init_66 : decode cX5_init 66 = .ok (.anewarray 42, 3) := by decide +kernel
theorem dX5_init_69 : decode cX5_init 69 = .ok (.putfield 44, 3) := by decide +kernel
theorem dX5_init_72 : decode cX5_init 72 = .ok (.aload_n 0, 1) := by decide +kernel
theorem dX5_init_73 : decode cX5_init 73 = .ok (.iconst 4, 1) := by decide +kernel
theorem dX5_init_74 : decode cX5_init 74 = .ok (.newarray .int, 2) := by decide +kernel
theorem dX5_init_76 : decode cX5_init 76 = .ok (.putfield 48, 3) := by decide +kernel
theorem dX5_init_79 : decode cX5_init 79 = .ok (.aload_n 0, 1) := by decide +kernel
theorem dX5_init_80 : decode cX5_init 80 = .ok (.iconst 0, 1) := by decide +kernel
theorem dX5_init_81 : decode cX5_init 81 = .ok (.putfield 52, 3) := by decide +kernel
theorem dX5_init_84 : decode cX5_init 84 = .ok (.iconst 0, 1) := by decide +kernel
theorem dX5_init_85 : decode cX5_init 85 = .ok (.istore_n 1, 1) := by decide +kernel
theorem dX5_init_86 : decode cX5_init 86 = .ok (.iload_n 1, 1) := by decide +kernel
theorem dX5_init_87 : decode cX5_init 87 = .ok (.bipush 8, 2) := by decide +kernel
theorem dX5_init_89 : decode cX5_init 89 = .ok (.if_icmp .ge 23, 3) := by decide +kernel
theorem dX5_init_92 : decode cX5_init 92 = .ok (.aload_n 0, 1) := by decide +kernel
theorem dX5_init_93 : decode cX5_init 93 = .ok (.getfield 44, 3) := by decide +kernel
theorem dX5_init_96 : decode cX5_init 96 = .ok (.iload_n 1, 1) := by decide +kernel
theorem dX5_init_97 : decode cX5_init 97 = .ok (.new 42, 3) := by decide +kernel
theorem dX5_init_100 : decode cX5_init 100 = .ok (.dup, 1) := by decide +kernel
theorem dX5_init_101 : decode cX5_init 101 = .ok (.iload_n 1, 1) := by decide +kernel
theorem dX5_init_102 : decode cX5_init 102 = .ok (.invokespecial 56, 3) := by decide +kernel
theorem dX5_init_105 : decode cX5_init 105 = .ok (.aastore, 1) := by decide +kernel
theorem dX5_init_106 : decode cX5_init 106 = .ok (.iinc 1 1, 3) := by decide +kernel
theorem dX5_init_109 : decode cX5_init 109 = .ok (.goto (-23), 3) := by decide +kernel
theorem dX5_init_112 : decode cX5_init 112 = .ok (.return_, 1) := by decide +kernel
theorem dX5_encode_0 : decode cX5_encode 0 = .ok (.aload_n 0, 1) := by decide +kernel
theorem dX5_encode_1 : decode cX5_encode 1 = .ok (.getfield 10, 3) := by decide +kernel
theorem dX5_encode_4 : decode cX5_encode 4 = .ok (.iload_n 1, 1) := by decide +kernel
theorem dX5_encode_5 : decode cX5_encode 5 = .ok (.iload_n 2, 1) := by decide +kernel
theorem dX5_encode_6 : decode cX5_encode 6 = .ok (.invokevirtual 59, 3) := by decide +kernel
theorem dX5_encode_9 : decode cX5_encode 9 = .ok (.ireturn, 1) := by decide +kernel
theorem dX5_decode_0 : decode cX5_decode 0 = .ok (.iload_n 1, 1) := by decide +kernel
theorem dX5_decode_1 : decode cX5_decode 1 = .ok (.ifCond .lt 10, 3) := by decide +kernel
theorem dX5_decode_4 : decode cX5_decode 4 = .ok (.iload_n 1, 1) := by decide +kernel
theorem dX5_decode_5 : decode cX5_decode 5 = .ok (.sipush 1024, 3) := by decide +kernel
theorem dX5_decode_8 : decode cX5_decode 8 = .ok (.if_icmp .lt 6, 3) := by decide +kernel
theorem dX5_decode_11 : decode cX5_decode 11 = .ok (.bipush (-3), 2) := by decide +kernel
theorem dX5_decode_13 : decode cX5_decode 13 = .ok (.ireturn, 1) := by decide +kernel
theorem dX5_decode_14 : decode cX5_decode 14 = .ok (.aload_n 0, 1) := by decide +kernel
theorem dX5_decode_15 : decode cX5_decode 15 = .ok (.getfield 10, 3) := by decide +kernel
theorem dX5_decode_18 : decode cX5_decode 18 = .ok (.iload_n 1, 1) := by decide +kernel
theorem dX5_decode_19 : decode cX5_decode 19 = .ok (.iload_n 2, 1) := by decide +kernel
theorem dX5_decode_20 : decode cX5_decode 20 = .ok (.invokevirtual 63, 3) := by decide +kernel
theorem dX5_decode_23 : decode cX5_decode 23 = .ok (.istore_n 3, 1) := by decide +kernel
theorem dX5_decode_24 : decode cX5_decode 24 = .ok (.iload_n 3, 1) := by decide +kernel
theorem dX5_decode_25 : decode cX5_decode 25 = .ok (.ifCond .ge 7, 3) := by decide +kernel
theorem dX5_decode_28 : decode cX5_decode 28 = .ok (.iconst (-1), 1) := by decide +kernel
theorem dX5_decode_29 : decode cX5_decode 29 = .ok (.goto 4, 3) := by decide +kernel
theorem dX5_decode_32 : decode cX5_decode 32 = .ok (.iload_n 3, 1) := by decide +kernel
theorem dX5_decode_33 : decode cX5_decode 33 = .ok (.ireturn, 1) := by decide +kernel
theorem dX5_draft_0 : decode cX5_draft 0 = .ok (.iload_n 1, 1) := by decide +kernel
theorem dX5_draft_1 : decode cX5_draft 1 = .ok (.ifCond .lt 10, 3) := by decide +kernel
theorem dX5_draft_4 : decode cX5_draft 4 = .ok (.iload_n 1, 1) := by decide +kernel
theorem dX5_draft_5 : decode cX5_draft 5 = .ok (.sipush 255, 3) := by decide +kernel
theorem dX5_draft_8 : decode cX5_draft 8 = .ok (.if_icmp .le 6, 3) := by decide +kernel
theorem dX5_draft_11 : decode cX5_draft 11 = .ok (.bipush (-3), 2) := by decide +kernel
theorem dX5_draft_13 : decode cX5_draft 13 = .ok (.ireturn, 1) := by decide +kernel
theorem dX5_draft_14 : decode cX5_draft 14 = .ok (.aload_n 0, 1) := by decide +kernel
theorem dX5_draft_15 : decode cX5_draft 15 = .ok (.getfield 35, 3) := by decide +kernel
theorem dX5_draft_18 : decode cX5_draft 18 = .ok (.invokevirtual 66, 3) := by decide +kernel
theorem dX5_draft_21 : decode cX5_draft 21 = .ok (.bipush 12, 2) := by decide +kernel
theorem dX5_draft_23 : decode cX5_draft 23 = .ok (.if_icmp .lt 6, 3) := by decide +kernel
theorem dX5_draft_26 : decode cX5_draft 26 = .ok (.bipush (-5), 2) := by decide +kernel
theorem dX5_draft_28 : decode cX5_draft 28 = .ok (.ireturn, 1) := by decide +kernel
theorem dX5_draft_29 : decode cX5_draft 29 = .ok (.aload_n 0, 1) := by decide +kernel
theorem dX5_draft_30 : decode cX5_draft 30 = .ok (.getfield 35, 3) := by decide +kernel
theorem dX5_draft_33 : decode cX5_draft 33 = .ok (.iload_n 1, 1) := by decide +kernel
theorem dX5_draft_34 : decode cX5_draft 34 = .ok (.invokevirtual 70, 3) := by decide +kernel
theorem dX5_draft_37 : decode cX5_draft 37 = .ok (.aload_n 0, 1) := by decide +kernel
theorem dX5_draft_38 : decode cX5_draft 38 = .ok (.getfield 35, 3) := by decide +kernel
theorem dX5_draft_41 : decode cX5_draft 41 = .ok (.invokevirtual 66, 3) := by decide +kernel
theorem dX5_draft_44 : decode cX5_draft 44 = .ok (.ireturn, 1) := by decide +kernel
theorem dX5_check_0 : decode cX5_check 0 = .ok (.aload_n 0, 1) := by decide +kernel
theorem dX5_check_1 : decode cX5_check 1 = .ok (.getfield 35, 3) := by decide +kernel
theorem dX5_check_4 : decode cX5_check 4 = .ok (.aload_n 0, 1) := by decide +kernel
theorem dX5_check_5 : decode cX5_check 5 = .ok (.getfield 35, 3) := by decide +kernel
theorem dX5_check_8 : decode cX5_check 8 = .ok (.invokevirtual 66, 3) := by decide +kernel
theorem dX5_check_11 : decode cX5_check 11 = .ok (.invokevirtual 73, 3) := by decide +kernel
theorem dX5_check_14 : decode cX5_check 14 = .ok (.ireturn, 1) := by decide +kernel
theorem dX5_test_0 : decode cX5_test 0 = .ok (.aload_n 0, 1) := by decide +kernel
theorem dX5_test_1 : decode cX5_test 1 = .ok (.getfield 35, 3) := by decide +kernel
theorem dX5_test_4 : decode cX5_test 4 = .ok (.invokevirtual 66, 3) := by decide +kernel
theorem dX5_test_7 : decode cX5_test 7 = .ok (.ifCond .ne 6, 3) := by decide +kernel
theorem dX5_test_10 : decode cX5_test 10 = .ok (.bipush (-4), 2) := by decide +kernel
theorem dX5_test_12 : decode cX5_test 12 = .ok (.ireturn, 1) := by decide +kernel
theorem dX5_test_13 : decode cX5_test 13 = .ok (.aload_n 0, 1) := by decide +kernel
theorem dX5_test_14 : decode cX5_test 14 = .ok (.getfield 21, 3) := by decide +kernel
theorem dX5_test_17 : decode cX5_test 17 = .ok (.aload_n 0, 1) := by decide +kernel
theorem dX5_test_18 : decode cX5_test 18 = .ok (.getfield 35, 3) := by decide +kernel
theorem dX5_test_21 : decode cX5_test 21 = .ok (.invokevirtual 77, 3) := by decide +kernel
theorem dX5_test_24 : decode cX5_test 24 = .ok (.istore_n 1, 1) := by decide +kernel
theorem dX5_test_25 : decode cX5_test 25 = .ok (.aload_n 0, 1) := by decide +kernel
theorem dX5_test_26 : decode cX5_test 26 = .ok (.getfield 35, 3) := by decide +kernel
theorem dX5_test_29 : decode cX5_test 29 = .ok (.invokevirtual 81, 3) := by decide +kernel
theorem dX5_test_32 : decode cX5_test 32 = .ok (.iload_n 1, 1) := by decide +kernel
theorem dX5_test_33 : decode cX5_test 33 = .ok (.ireturn, 1) := by decide +kernel
theorem dX5_wire_0 : decode cX5_wire 0 = .ok (.aload_n 0, 1) := by decide +kernel
theorem dX5_wire_1 : decode cX5_wire 1 = .ok (.getfield 21, 3) := by decide +kernel
theorem dX5_wire_4 : decode cX5_wire 4 = .ok (.iload_n 1, 1) := by decide +kernel
theorem dX5_wire_5 : decode cX5_wire 5 = .ok (.invokevirtual 84, 3) := by decide +kernel
theorem dX5_wire_8 : decode cX5_wire 8 = .ok (.ireturn, 1) := by decide +kernel
theorem dX5_finding_0 : decode cX5_finding 0 = .ok (.aload_n 0, 1) := by decide +kernel
theorem dX5_finding_1 : decode cX5_finding 1 = .ok (.getfield 21, 3) := by decide +kernel
theorem dX5_finding_4 : decode cX5_finding 4 = .ok (.iload_n 1, 1) := by decide +kernel
theorem dX5_finding_5 : decode cX5_finding 5 = .ok (.invokevirtual 87, 3) := by decide +kernel
theorem dX5_finding_8 : decode cX5_finding 8 = .ok (.ireturn, 1) := by decide +kernel
theorem dX5_plan_0 : decode cX5_plan 0 = .ok (.iload_n 1, 1) := by decide +kernel
theorem dX5_plan_1 : decode cX5_plan 1 = .ok (.ifCond .lt 19, 3) := by decide +kernel
theorem dX5_plan_4 : decode cX5_plan 4 = .ok (.iload_n 1, 1) := by decide +kernel
theorem dX5_plan_5 : decode cX5_plan 5 = .ok (.ldc 90, 2) := by decide +kernel
theorem dX5_plan_7 : decode cX5_plan 7 = .ok (.if_icmp .gt 13, 3) := by decide +kernel
theorem dX5_plan_10 : decode cX5_plan 10 = .ok (.iload_n 2, 1) := by decide +kernel
theorem dX5_plan_11 : decode cX5_plan 11 = .ok (.ifCond .lt 9, 3) := by decide +kernel
theorem dX5_plan_14 : decode cX5_plan 14 = .ok (.iload_n 2, 1) := by decide +kernel
theorem dX5_plan_15 : decode cX5_plan 15 = .ok (.ldc 90, 2) := by decide +kernel
theorem dX5_plan_17 : decode cX5_plan 17 = .ok (.if_icmp .le 6, 3) := by decide +kernel
theorem dX5_plan_20 : decode cX5_plan 20 = .ok (.bipush (-3), 2) := by decide +kernel
theorem dX5_plan_22 : decode cX5_plan 22 = .ok (.ireturn, 1) := by decide +kernel
theorem dX5_plan_23 : decode cX5_plan 23 = .ok (.aload_n 0, 1) := by decide +kernel
theorem dX5_plan_24 : decode cX5_plan 24 = .ok (.getfield 21, 3) := by decide +kernel
theorem dX5_plan_27 : decode cX5_plan 27 = .ok (.iload_n 1, 1) := by decide +kernel
theorem dX5_plan_28 : decode cX5_plan 28 = .ok (.iload_n 2, 1) := by decide +kernel
theorem dX5_plan_29 : decode cX5_plan 29 = .ok (.invokevirtual 91, 3) := by decide +kernel
theorem dX5_plan_32 : decode cX5_plan 32 = .ok (.ireturn, 1) := by decide +kernel
theorem dX5_calm_0 : decode cX5_calm 0 = .ok (.aload_n 0, 1) := by decide +kernel
theorem dX5_calm_1 : decode cX5_calm 1 = .ok (.getfield 21, 3) := by decide +kernel
theorem dX5_calm_4 : decode cX5_calm 4 = .ok (.invokevirtual 95, 3) := by decide +kernel
theorem dX5_calm_7 : decode cX5_calm 7 = .ok (.ireturn, 1) := by decide +kernel
theorem dX5_read_0 : decode cX5_read 0 = .ok (.aload_n 0, 1) := by decide +kernel
theorem dX5_read_1 : decode cX5_read 1 = .ok (.iload_n 1, 1) := by decide +kernel
theorem dX5_read_2 : decode cX5_read 2 = .ok (.iconst 0, 1) := by decide +kernel
theorem dX5_read_3 : decode cX5_read 3 = .ok (.iload_n 2, 1) := by decide +kernel
theorem dX5_read_4 : decode cX5_read 4 = .ok (.iload_n 3, 1) := by decide +kernel
theorem dX5_read_5 : decode cX5_read 5 = .ok (.invokevirtual 98, 3) := by decide +kernel
theorem dX5_read_8 : decode cX5_read 8 = .ok (.ireturn, 1) := by decide +kernel
theorem dX5_write_0 : decode cX5_write 0 = .ok (.aload_n 0, 1) := by decide +kernel
theorem dX5_write_1 : decode cX5_write 1 = .ok (.iload_n 1, 1) := by decide +kernel
theorem dX5_write_2 : decode cX5_write 2 = .ok (.iload 4, 2) := by decide +kernel
theorem dX5_write_4 : decode cX5_write 4 = .ok (.ifCond .eq 7, 3) := by decide +kernel
theorem dX5_write_7 : decode cX5_write 7 = .ok (.iconst 2, 1) := by decide +kernel
theorem dX5_write_8 : decode cX5_write 8 = .ok (.goto 4, 3) := by decide +kernel
theorem dX5_write_11 : decode cX5_write 11 = .ok (.iconst 1, 1) := by decide +kernel
theorem dX5_write_12 : decode cX5_write 12 = .ok (.iload_n 2, 1) := by decide +kernel
theorem dX5_write_13 : decode cX5_write 13 = .ok (.iload_n 3, 1) := by decide +kernel
theorem dX5_write_14 : decode cX5_write 14 = .ok (.invokevirtual 98, 3) := by decide +kernel
theorem dX5_write_17 : decode cX5_write 17 = .ok (.istore 9, 2) := by decide +kernel
theorem dX5_write_19 : decode cX5_write 19 = .ok (.aload_n 0, 1) := by decide +kernel
theorem dX5_write_20 : decode cX5_write 20 = .ok (.iload_n 1, 1) := by decide +kernel
theorem dX5_write_21 : decode cX5_write 21 = .ok (.invokevirtual 102, 3) := by decide +kernel
theorem dX5_write_24 : decode cX5_write 24 = .ok (.astore 10, 2) := by decide +kernel
theorem dX5_write_26 : decode cX5_write 26 = .ok (.iload 9, 2) := by decide +kernel
theorem dX5_write_28 : decode cX5_write 28 = .ok (.ifCond .le 21, 3) := by decide +kernel
theorem dX5_write_31 : decode cX5_write 31 = .ok (.aload 10, 2) := by decide +kernel
theorem dX5_write_33 : decode cX5_write 33 = .ok (.ifnull 16, 3) := by decide +kernel
theorem dX5_write_36 : decode cX5_write 36 = .ok (.aload 10, 2) := by decide +kernel
theorem dX5_write_38 : decode cX5_write 38 = .ok (.iload 5, 2) := by decide +kernel
theorem dX5_write_40 : decode cX5_write 40 = .ok (.iload 6, 2) := by decide +kernel
theorem dX5_write_42 : decode cX5_write 42 = .ok (.iload 7, 2) := by decide +kernel
theorem dX5_write_44 : decode cX5_write 44 = .ok (.iload 8, 2) := by decide +kernel
theorem dX5_write_46 : decode cX5_write 46 = .ok (.invokevirtual 106, 3) := by decide +kernel
theorem dX5_write_49 : decode cX5_write 49 = .ok (.iload 9, 2) := by decide +kernel
theorem dX5_write_51 : decode cX5_write 51 = .ok (.ireturn, 1) := by decide +kernel
theorem dX5_flush_0 : decode cX5_flush 0 = .ok (.aload_n 0, 1) := by decide +kernel
theorem dX5_flush_1 : decode cX5_flush 1 = .ok (.iload_n 1, 1) := by decide +kernel
theorem dX5_flush_2 : decode cX5_flush 2 = .ok (.iconst 3, 1) := by decide +kernel
theorem dX5_flush_3 : decode cX5_flush 3 = .ok (.iconst 0, 1) := by decide +kernel
theorem dX5_flush_4 : decode cX5_flush 4 = .ok (.iconst 0, 1) := by decide +kernel
theorem dX5_flush_5 : decode cX5_flush 5 = .ok (.invokevirtual 98, 3) := by decide +kernel
theorem dX5_flush_8 : decode cX5_flush 8 = .ok (.ireturn, 1) := by decide +kernel
theorem dX5_step_0 : decode cX5_step 0 = .ok (.aload_n 0, 1) := by decide +kernel
theorem dX5_step_1 : decode cX5_step 1 = .ok (.invokevirtual 110, 3) := by decide +kernel
theorem dX5_step_4 : decode cX5_step 4 = .ok (.astore_n 1, 1) := by decide +kernel
theorem dX5_step_5 : decode cX5_step 5 = .ok (.aload_n 1, 1) := by decide +kernel
theorem dX5_step_6 : decode cX5_step 6 = .ok (.ifnonnull 6, 3) := by decide +kernel
theorem dX5_step_9 : decode cX5_step 9 = .ok (.bipush (-4), 2) := by decide +kernel
theorem dX5_step_11 : decode cX5_step 11 = .ok (.ireturn, 1) := by decide +kernel
theorem dX5_step_12 : decode cX5_step 12 = .ok (.aload_n 0, 1) := by decide +kernel
theorem dX5_step_13 : decode cX5_step 13 = .ok (.aload_n 1, 1) := by decide +kernel
theorem dX5_step_14 : decode cX5_step 14 = .ok (.invokevirtual 114, 3) := by decide +kernel
theorem dX5_step_17 : decode cX5_step 17 = .ok (.putfield 117, 3) := by decide +kernel
theorem dX5_step_20 : decode cX5_step 20 = .ok (.aload_n 1, 1) := by decide +kernel
theorem dX5_step_21 : decode cX5_step 21 = .ok (.aload_n 0, 1) := by decide +kernel
theorem dX5_step_22 : decode cX5_step 22 = .ok (.aload_n 1, 1) := by decide +kernel
theorem dX5_step_23 : decode cX5_step 23 = .ok (.invokevirtual 120, 3) := by decide +kernel
theorem dX5_step_26 : decode cX5_step 26 = .ok (.invokevirtual 124, 3) := by decide +kernel
theorem dX5_step_29 : decode cX5_step 29 = .ok (.aload_n 1, 1) := by decide +kernel
theorem dX5_step_30 : decode cX5_step 30 = .ok (.getfield 127, 3) := by decide +kernel
theorem dX5_step_33 : decode cX5_step 33 = .ok (.ireturn, 1) := by decide +kernel
theorem dX5_drain_0 : decode cX5_drain 0 = .ok (.iconst 0, 1) := by decide +kernel
theorem dX5_drain_1 : decode cX5_drain 1 = .ok (.istore_n 1, 1) := by decide +kernel
theorem dX5_drain_2 : decode cX5_drain 2 = .ok (.iload_n 1, 1) := by decide +kernel
theorem dX5_drain_3 : decode cX5_drain 3 = .ok (.bipush 8, 2) := by decide +kernel
theorem dX5_drain_5 : decode cX5_drain 5 = .ok (.if_icmp .ge 16, 3) := by decide +kernel
theorem dX5_drain_8 : decode cX5_drain 8 = .ok (.aload_n 0, 1) := by decide +kernel
theorem dX5_drain_9 : decode cX5_drain 9 = .ok (.invokevirtual 130, 3) := by decide +kernel
theorem dX5_drain_12 : decode cX5_drain 12 = .ok (.ifCond .lt 9, 3) := by decide +kernel
theorem dX5_drain_15 : decode cX5_drain 15 = .ok (.iinc 1 1, 3) := by decide +kernel
theorem dX5_drain_18 : decode cX5_drain 18 = .ok (.goto (-16), 3) := by decide +kernel
theorem dX5_drain_21 : decode cX5_drain 21 = .ok (.iload_n 1, 1) := by decide +kernel
theorem dX5_drain_22 : decode cX5_drain 22 = .ok (.ireturn, 1) := by decide +kernel
theorem dX5_result_0 : decode cX5_result 0 = .ok (.aload_n 0, 1) := by decide +kernel
theorem dX5_result_1 : decode cX5_result 1 = .ok (.iload_n 1, 1) := by decide +kernel
theorem dX5_result_2 : decode cX5_result 2 = .ok (.invokevirtual 102, 3) := by decide +kernel
theorem dX5_result_5 : decode cX5_result 5 = .ok (.astore_n 2, 1) := by decide +kernel
theorem dX5_result_6 : decode cX5_result 6 = .ok (.aload_n 2, 1) := by decide +kernel
theorem dX5_result_7 : decode cX5_result 7 = .ok (.ifnonnull 6, 3) := by decide +kernel
theorem dX5_result_10 : decode cX5_result 10 = .ok (.bipush (-2), 2) := by decide +kernel
theorem dX5_result_12 : decode cX5_result 12 = .ok (.ireturn, 1) := by decide +kernel
theorem dX5_result_13 : decode cX5_result 13 = .ok (.aload_n 2, 1) := by decide +kernel
theorem dX5_result_14 : decode cX5_result 14 = .ok (.getfield 133, 3) := by decide +kernel
theorem dX5_result_17 : decode cX5_result 17 = .ok (.iconst 2, 1) := by decide +kernel
theorem dX5_result_18 : decode cX5_result 18 = .ok (.if_icmp .eq 6, 3) := by decide +kernel
theorem dX5_result_21 : decode cX5_result 21 = .ok (.bipush (-4), 2) := by decide +kernel
theorem dX5_result_23 : decode cX5_result 23 = .ok (.ireturn, 1) := by decide +kernel
theorem dX5_result_24 : decode cX5_result 24 = .ok (.aload_n 2, 1) := by decide +kernel
theorem dX5_result_25 : decode cX5_result 25 = .ok (.iconst 0, 1) := by decide +kernel
theorem dX5_result_26 : decode cX5_result 26 = .ok (.putfield 133, 3) := by decide +kernel
theorem dX5_result_29 : decode cX5_result 29 = .ok (.aload_n 2, 1) := by decide +kernel
theorem dX5_result_30 : decode cX5_result 30 = .ok (.getfield 136, 3) := by decide +kernel
theorem dX5_result_33 : decode cX5_result 33 = .ok (.ifCond .ne 18, 3) := by decide +kernel
theorem dX5_result_36 : decode cX5_result 36 = .ok (.aload_n 2, 1) := by decide +kernel
theorem dX5_result_37 : decode cX5_result 37 = .ok (.getfield 139, 3) := by decide +kernel
theorem dX5_result_40 : decode cX5_result 40 = .ok (.ifCond .ne 11, 3) := by decide +kernel
theorem dX5_result_43 : decode cX5_result 43 = .ok (.aload_n 2, 1) := by decide +kernel
theorem dX5_result_44 : decode cX5_result 44 = .ok (.aload_n 0, 1) := by decide +kernel
theorem dX5_result_45 : decode cX5_result 45 = .ok (.getfield 48, 3) := by decide +kernel
theorem dX5_result_48 : decode cX5_result 48 = .ok (.invokevirtual 142, 3) := by decide +kernel
theorem dX5_result_51 : decode cX5_result 51 = .ok (.aload_n 2, 1) := by decide +kernel
theorem dX5_result_52 : decode cX5_result 52 = .ok (.getfield 139, 3) := by decide +kernel
theorem dX5_result_55 : decode cX5_result 55 = .ok (.ireturn, 1) := by decide +kernel
theorem dX5_got_0 : decode cX5_got 0 = .ok (.iload_n 1, 1) := by decide +kernel
theorem dX5_got_1 : decode cX5_got 1 = .ok (.ifCond .lt 21, 3) := by decide +kernel
theorem dX5_got_4 : decode cX5_got 4 = .ok (.iload_n 1, 1) := by decide +kernel
theorem dX5_got_5 : decode cX5_got 5 = .ok (.aload_n 0, 1) := by decide +kernel
theorem dX5_got_6 : decode cX5_got 6 = .ok (.getfield 48, 3) := by decide +kernel
theorem dX5_got_9 : decode cX5_got 9 = .ok (.arraylength, 1) := by decide +kernel
theorem dX5_got_10 : decode cX5_got 10 = .ok (.if_icmp .ge 12, 3) := by decide +kernel
theorem dX5_got_13 : decode cX5_got 13 = .ok (.aload_n 0, 1) := by decide +kernel
theorem dX5_got_14 : decode cX5_got 14 = .ok (.getfield 48, 3) := by decide +kernel
theorem dX5_got_17 : decode cX5_got 17 = .ok (.iload_n 1, 1) := by decide +kernel
theorem dX5_got_18 : decode cX5_got 18 = .ok (.iaload, 1) := by decide +kernel
theorem dX5_got_19 : decode cX5_got 19 = .ok (.goto 4, 3) := by decide +kernel
theorem dX5_got_22 : decode cX5_got 22 = .ok (.iconst 0, 1) := by decide +kernel
theorem dX5_got_23 : decode cX5_got 23 = .ok (.ireturn, 1) := by decide +kernel
theorem dX5_way_0 : decode cX5_way 0 = .ok (.iload_n 1, 1) := by decide +kernel
theorem dX5_way_1 : decode cX5_way 1 = .ok (.ifCond .lt 8, 3) := by decide +kernel
theorem dX5_way_4 : decode cX5_way 4 = .ok (.iload_n 1, 1) := by decide +kernel
theorem dX5_way_5 : decode cX5_way 5 = .ok (.iconst 2, 1) := by decide +kernel
theorem dX5_way_6 : decode cX5_way 6 = .ok (.if_icmp .le 6, 3) := by decide +kernel
theorem dX5_way_9 : decode cX5_way 9 = .ok (.bipush (-3), 2) := by decide +kernel
theorem dX5_way_11 : decode cX5_way 11 = .ok (.ireturn, 1) := by decide +kernel
theorem dX5_way_12 : decode cX5_way 12 = .ok (.aload_n 0, 1) := by decide +kernel
theorem dX5_way_13 : decode cX5_way 13 = .ok (.getfield 52, 3) := by decide +kernel
theorem dX5_way_16 : decode cX5_way 16 = .ok (.istore_n 2, 1) := by decide +kernel
theorem dX5_way_17 : decode cX5_way 17 = .ok (.aload_n 0, 1) := by decide +kernel
theorem dX5_way_18 : decode cX5_way 18 = .ok (.iload_n 1, 1) := by decide +kernel
theorem dX5_way_19 : decode cX5_way 19 = .ok (.putfield 52, 3) := by decide +kernel
theorem dX5_way_22 : decode cX5_way 22 = .ok (.iload_n 2, 1) := by decide +kernel
theorem dX5_way_23 : decode cX5_way 23 = .ok (.ireturn, 1) := by decide +kernel
theorem dX5_cut_0 : decode cX5_cut 0 = .ok (.aload_n 0, 1) := by decide +kernel
theorem dX5_cut_1 : decode cX5_cut 1 = .ok (.getfield 44, 3) := by decide +kernel
theorem dX5_cut_4 : decode cX5_cut 4 = .ok (.astore_n 1, 1) := by decide +kernel
theorem dX5_cut_5 : decode cX5_cut 5 = .ok (.aload_n 1, 1) := by decide +kernel
theorem dX5_cut_6 : decode cX5_cut 6 = .ok (.arraylength, 1) := by decide +kernel
theorem dX5_cut_7 : decode cX5_cut 7 = .ok (.istore_n 2, 1) := by decide +kernel
theorem dX5_cut_8 : decode cX5_cut 8 = .ok (.iconst 0, 1) := by decide +kernel
theorem dX5_cut_9 : decode cX5_cut 9 = .ok (.istore_n 3, 1) := by decide +kernel
theorem dX5_cut_10 : decode cX5_cut 10 = .ok (.iload_n 3, 1) := by decide +kernel
theorem dX5_cut_11 : decode cX5_cut 11 = .ok (.iload_n 2, 1) := by decide +kernel
theorem dX5_cut_12 : decode cX5_cut 12 = .ok (.if_icmp .ge 29, 3) := by decide +kernel
theorem dX5_cut_15 : decode cX5_cut 15 = .ok (.aload_n 1, 1) := by decide +kernel
theorem dX5_cut_16 : decode cX5_cut 16 = .ok (.iload_n 3, 1) := by decide +kernel
theorem dX5_cut_17 : decode cX5_cut 17 = .ok (.aaload, 1) := by decide +kernel
theorem dX5_cut_18 : decode cX5_cut 18 = .ok (.astore 4, 2) := by decide +kernel
theorem dX5_cut_20 : decode cX5_cut 20 = .ok (.aload 4, 2) := by decide +kernel
theorem dX5_cut_22 : decode cX5_cut 22 = .ok (.getfield 133, 3) := by decide +kernel
theorem dX5_cut_25 : decode cX5_cut 25 = .ok (.iconst 1, 1) := by decide +kernel
theorem dX5_cut_26 : decode cX5_cut 26 = .ok (.if_icmp .ne 9, 3) := by decide +kernel
theorem dX5_cut_29 : decode cX5_cut 29 = .ok (.aload 4, 2) := by decide +kernel
theorem dX5_cut_31 : decode cX5_cut 31 = .ok (.iconst 3, 1) := by decide +kernel
theorem dX5_cut_32 : decode cX5_cut 32 = .ok (.invokevirtual 124, 3) := by decide +kernel
theorem dX5_cut_35 : decode cX5_cut 35 = .ok (.iinc 3 1, 3) := by decide +kernel
theorem dX5_cut_38 : decode cX5_cut 38 = .ok (.goto (-28), 3) := by decide +kernel
theorem dX5_cut_41 : decode cX5_cut 41 = .ok (.aload_n 0, 1) := by decide +kernel
theorem dX5_cut_42 : decode cX5_cut 42 = .ok (.getfield 28, 3) := by decide +kernel
theorem dX5_cut_45 : decode cX5_cut 45 = .ok (.invokevirtual 146, 3) := by decide +kernel
theorem dX5_cut_48 : decode cX5_cut 48 = .ok (.ireturn, 1) := by decide +kernel
theorem dX5_sector_0 : decode cX5_sector 0 = .ok (.iload_n 2, 1) := by decide +kernel
theorem dX5_sector_1 : decode cX5_sector 1 = .ok (.ifCond .eq 14, 3) := by decide +kernel
theorem dX5_sector_4 : decode cX5_sector 4 = .ok (.aload_n 0, 1) := by decide +kernel
theorem dX5_sector_5 : decode cX5_sector 5 = .ok (.getfield 28, 3) := by decide +kernel
theorem dX5_sector_8 : decode cX5_sector 8 = .ok (.iload_n 1, 1) := by decide +kernel
theorem dX5_sector_9 : decode cX5_sector 9 = .ok (.invokevirtual 149, 3) := by decide +kernel
theorem dX5_sector_12 : decode cX5_sector 12 = .ok (.goto 11, 3) := by decide +kernel
theorem dX5_sector_15 : decode cX5_sector 15 = .ok (.aload_n 0, 1) := by decide +kernel
theorem dX5_sector_16 : decode cX5_sector 16 = .ok (.getfield 28, 3) := by decide +kernel
theorem dX5_sector_19 : decode cX5_sector 19 = .ok (.iload_n 1, 1) := by decide +kernel
theorem dX5_sector_20 : decode cX5_sector 20 = .ok (.invokevirtual 152, 3) := by decide +kernel
theorem dX5_sector_23 : decode cX5_sector 23 = .ok (.ireturn, 1) := by decide +kernel
theorem dX5_cached_0 : decode cX5_cached 0 = .ok (.aload_n 0, 1) := by decide +kernel
theorem dX5_cached_1 : decode cX5_cached 1 = .ok (.getfield 28, 3) := by decide +kernel
theorem dX5_cached_4 : decode cX5_cached 4 = .ok (.iload_n 1, 1) := by decide +kernel
theorem dX5_cached_5 : decode cX5_cached 5 = .ok (.invokevirtual 155, 3) := by decide +kernel
theorem dX5_cached_8 : decode cX5_cached 8 = .ok (.ireturn, 1) := by decide +kernel
theorem dX5_state_0 : decode cX5_state 0 = .ok (.aload_n 0, 1) := by decide +kernel
theorem dX5_state_1 : decode cX5_state 1 = .ok (.iload_n 1, 1) := by decide +kernel
theorem dX5_state_2 : decode cX5_state 2 = .ok (.invokevirtual 102, 3) := by decide +kernel
theorem dX5_state_5 : decode cX5_state 5 = .ok (.astore_n 2, 1) := by decide +kernel
theorem dX5_state_6 : decode cX5_state 6 = .ok (.aload_n 2, 1) := by decide +kernel
theorem dX5_state_7 : decode cX5_state 7 = .ok (.ifnonnull 8, 3) := by decide +kernel
theorem dX5_state_10 : decode cX5_state 10 = .ok (.bipush (-2), 2) := by decide +kernel
theorem dX5_state_12 : decode cX5_state 12 = .ok (.goto 7, 3) := by decide +kernel
theorem dX5_state_15 : decode cX5_state 15 = .ok (.aload_n 2, 1) := by decide +kernel
theorem dX5_state_16 : decode cX5_state 16 = .ok (.getfield 133, 3) := by decide +kernel
theorem dX5_state_19 : decode cX5_state 19 = .ok (.ireturn, 1) := by decide +kernel
theorem dX5_count_0 : decode cX5_count 0 = .ok (.iload_n 1, 1) := by decide +kernel
theorem dX5_count_1 : decode cX5_count 1 = .ok (.tableswitch 128 0 9 #[55, 63, 71, 79, 87, 95, 101, 107, 112, 120], 55) := by decide +kernel
theorem dX5_count_56 : decode cX5_count 56 = .ok (.aload_n 0, 1) := by decide +kernel
theorem dX5_count_57 : decode cX5_count 57 = .ok (.getfield 21, 3) := by decide +kernel
theorem dX5_count_60 : decode cX5_count 60 = .ok (.getfield 158, 3) := by decide +kernel
theorem dX5_count_63 : decode cX5_count 63 = .ok (.ireturn, 1) := by decide +kernel
theorem dX5_count_64 : decode cX5_count 64 = .ok (.aload_n 0, 1) := by decide +kernel
theorem dX5_count_65 : decode cX5_count 65 = .ok (.getfield 21, 3) := by decide +kernel
theorem dX5_count_68 : decode cX5_count 68 = .ok (.getfield 161, 3) := by decide +kernel
theorem dX5_count_71 : decode cX5_count 71 = .ok (.ireturn, 1) := by decide +kernel
theorem dX5_count_72 : decode cX5_count 72 = .ok (.aload_n 0, 1) := by decide +kernel
theorem dX5_count_73 : decode cX5_count 73 = .ok (.getfield 21, 3) := by decide +kernel
theorem dX5_count_76 : decode cX5_count 76 = .ok (.getfield 164, 3) := by decide +kernel
theorem dX5_count_79 : decode cX5_count 79 = .ok (.ireturn, 1) := by decide +kernel
theorem dX5_count_80 : decode cX5_count 80 = .ok (.aload_n 0, 1) := by decide +kernel
theorem dX5_count_81 : decode cX5_count 81 = .ok (.getfield 21, 3) := by decide +kernel
theorem dX5_count_84 : decode cX5_count 84 = .ok (.getfield 167, 3) := by decide +kernel
theorem dX5_count_87 : decode cX5_count 87 = .ok (.ireturn, 1) := by decide +kernel
theorem dX5_count_88 : decode cX5_count 88 = .ok (.aload_n 0, 1) := by decide +kernel
theorem dX5_count_89 : decode cX5_count 89 = .ok (.getfield 28, 3) := by decide +kernel
theorem dX5_count_92 : decode cX5_count 92 = .ok (.getfield 170, 3) := by decide +kernel
theorem dX5_count_95 : decode cX5_count 95 = .ok (.ireturn, 1) := by decide +kernel
theorem dX5_count_96 : decode cX5_count 96 = .ok (.aload_n 0, 1) := by decide +kernel
theorem dX5_count_97 : decode cX5_count 97 = .ok (.iconst 1, 1) := by decide +kernel
theorem dX5_count_98 : decode cX5_count 98 = .ok (.invokevirtual 173, 3) := by decide +kernel
theorem dX5_count_101 : decode cX5_count 101 = .ok (.ireturn, 1) := by decide +kernel
theorem dX5_count_102 : decode cX5_count 102 = .ok (.aload_n 0, 1) := by decide +kernel
theorem dX5_count_103 : decode cX5_count 103 = .ok (.iconst 2, 1) := by decide +kernel
theorem dX5_count_104 : decode cX5_count 104 = .ok (.invokevirtual 173, 3) := by decide +kernel
theorem dX5_count_107 : decode cX5_count 107 = .ok (.ireturn, 1) := by decide +kernel
theorem dX5_count_108 : decode cX5_count 108 = .ok (.aload_n 0, 1) := by decide +kernel
theorem dX5_count_109 : decode cX5_count 109 = .ok (.getfield 117, 3) := by decide +kernel
theorem dX5_count_112 : decode cX5_count 112 = .ok (.ireturn, 1) := by decide +kernel
theorem dX5_count_113 : decode cX5_count 113 = .ok (.aload_n 0, 1) := by decide +kernel
theorem dX5_count_114 : decode cX5_count 114 = .ok (.getfield 35, 3) := by decide +kernel
theorem dX5_count_117 : decode cX5_count 117 = .ok (.invokevirtual 66, 3) := by decide +kernel
theorem dX5_count_120 : decode cX5_count 120 = .ok (.ireturn, 1) := by decide +kernel
theorem dX5_count_121 : decode cX5_count 121 = .ok (.aload_n 0, 1) := by decide +kernel
theorem dX5_count_122 : decode cX5_count 122 = .ok (.getfield 21, 3) := by decide +kernel
theorem dX5_count_125 : decode cX5_count 125 = .ok (.getfield 176, 3) := by decide +kernel
theorem dX5_count_128 : decode cX5_count 128 = .ok (.ireturn, 1) := by decide +kernel
theorem dX5_count_129 : decode cX5_count 129 = .ok (.bipush (-3), 2) := by decide +kernel
theorem dX5_count_131 : decode cX5_count 131 = .ok (.ireturn, 1) := by decide +kernel
theorem dX5_commandOf_0 : decode cX5_commandOf 0 = .ok (.iload_n 1, 1) := by decide +kernel
theorem dX5_commandOf_1 : decode cX5_commandOf 1 = .ok (.ifCond .lt 21, 3) := by decide +kernel
theorem dX5_commandOf_4 : decode cX5_commandOf 4 = .ok (.iload_n 1, 1) := by decide +kernel
theorem dX5_commandOf_5 : decode cX5_commandOf 5 = .ok (.aload_n 0, 1) := by decide +kernel
theorem dX5_commandOf_6 : decode cX5_commandOf 6 = .ok (.getfield 44, 3) := by decide +kernel
theorem dX5_commandOf_9 : decode cX5_commandOf 9 = .ok (.arraylength, 1) := by decide +kernel
theorem dX5_commandOf_10 : decode cX5_commandOf 10 = .ok (.if_icmp .ge 12, 3) := by decide +kernel
theorem dX5_commandOf_13 : decode cX5_commandOf 13 = .ok (.aload_n 0, 1) := by decide +kernel
theorem dX5_commandOf_14 : decode cX5_commandOf 14 = .ok (.getfield 44, 3) := by decide +kernel
theorem dX5_commandOf_17 : decode cX5_commandOf 17 = .ok (.iload_n 1, 1) := by decide +kernel
theorem dX5_commandOf_18 : decode cX5_commandOf 18 = .ok (.aaload, 1) := by decide +kernel
theorem dX5_commandOf_19 : decode cX5_commandOf 19 = .ok (.goto 4, 3) := by decide +kernel
theorem dX5_commandOf_22 : decode cX5_commandOf 22 = .ok (.aconst_null, 1) := by decide +kernel
theorem dX5_commandOf_23 : decode cX5_commandOf 23 = .ok (.areturn, 1) := by decide +kernel
theorem dX5_commandsAt_0 : decode cX5_commandsAt 0 = .ok (.iconst 0, 1) := by decide +kernel
theorem dX5_commandsAt_1 : decode cX5_commandsAt 1 = .ok (.istore_n 2, 1) := by decide +kernel
theorem dX5_commandsAt_2 : decode cX5_commandsAt 2 = .ok (.aload_n 0, 1) := by decide +kernel
theorem dX5_commandsAt_3 : decode cX5_commandsAt 3 = .ok (.getfield 44, 3) := by decide +kernel
theorem dX5_commandsAt_6 : decode cX5_commandsAt 6 = .ok (.astore_n 3, 1) := by decide +kernel
theorem dX5_commandsAt_7 : decode cX5_commandsAt 7 = .ok (.aload_n 3, 1) := by decide +kernel
theorem dX5_commandsAt_8 : decode cX5_commandsAt 8 = .ok (.arraylength, 1) := by decide +kernel
theorem dX5_commandsAt_9 : decode cX5_commandsAt 9 = .ok (.istore 4, 2) := by decide +kernel
theorem dX5_commandsAt_11 : decode cX5_commandsAt 11 = .ok (.iconst 0, 1) := by decide +kernel
theorem dX5_commandsAt_12 : decode cX5_commandsAt 12 = .ok (.istore 5, 2) := by decide +kernel
theorem dX5_commandsAt_14 : decode cX5_commandsAt 14 = .ok (.iload 5, 2) := by decide +kernel
theorem dX5_commandsAt_16 : decode cX5_commandsAt 16 = .ok (.iload 4, 2) := by decide +kernel
theorem dX5_commandsAt_18 : decode cX5_commandsAt 18 = .ok (.if_icmp .ge 27, 3) := by decide +kernel
theorem dX5_commandsAt_21 : decode cX5_commandsAt 21 = .ok (.aload_n 3, 1) := by decide +kernel
theorem dX5_commandsAt_22 : decode cX5_commandsAt 22 = .ok (.iload 5, 2) := by decide +kernel
theorem dX5_commandsAt_24 : decode cX5_commandsAt 24 = .ok (.aaload, 1) := by decide +kernel
theorem dX5_commandsAt_25 : decode cX5_commandsAt 25 = .ok (.astore 6, 2) := by decide +kernel
theorem dX5_commandsAt_27 : decode cX5_commandsAt 27 = .ok (.aload 6, 2) := by decide +kernel
theorem dX5_commandsAt_29 : decode cX5_commandsAt 29 = .ok (.getfield 133, 3) := by decide +kernel
theorem dX5_commandsAt_32 : decode cX5_commandsAt 32 = .ok (.iload_n 1, 1) := by decide +kernel
theorem dX5_commandsAt_33 : decode cX5_commandsAt 33 = .ok (.if_icmp .ne 6, 3) := by decide +kernel
theorem dX5_commandsAt_36 : decode cX5_commandsAt 36 = .ok (.iinc 2 1, 3) := by decide +kernel
theorem dX5_commandsAt_39 : decode cX5_commandsAt 39 = .ok (.iinc 5 1, 3) := by decide +kernel
theorem dX5_commandsAt_42 : decode cX5_commandsAt 42 = .ok (.goto (-28), 3) := by decide +kernel
theorem dX5_commandsAt_45 : decode cX5_commandsAt 45 = .ok (.iload_n 2, 1) := by decide +kernel
theorem dX5_commandsAt_46 : decode cX5_commandsAt 46 = .ok (.ireturn, 1) := by decide +kernel
theorem dX5_issue_0 : decode cX5_issue 0 = .ok (.aload_n 0, 1) := by decide +kernel
theorem dX5_issue_1 : decode cX5_issue 1 = .ok (.iload_n 1, 1) := by decide +kernel
theorem dX5_issue_2 : decode cX5_issue 2 = .ok (.invokevirtual 102, 3) := by decide +kernel
theorem dX5_issue_5 : decode cX5_issue 5 = .ok (.astore 5, 2) := by decide +kernel
theorem dX5_issue_7 : decode cX5_issue 7 = .ok (.aload 5, 2) := by decide +kernel
theorem dX5_issue_9 : decode cX5_issue 9 = .ok (.ifnonnull 6, 3) := by decide +kernel
theorem dX5_issue_12 : decode cX5_issue 12 = .ok (.bipush (-2), 2) := by decide +kernel
theorem dX5_issue_14 : decode cX5_issue 14 = .ok (.ireturn, 1) := by decide +kernel
theorem dX5_issue_15 : decode cX5_issue 15 = .ok (.iload_n 2, 1) := by decide +kernel
theorem dX5_issue_16 : decode cX5_issue 16 = .ok (.iconst 3, 1) := by decide +kernel
theorem dX5_issue_17 : decode cX5_issue 17 = .ok (.if_icmp .eq 28, 3) := by decide +kernel
theorem dX5_issue_20 : decode cX5_issue 20 = .ok (.iload_n 3, 1) := by decide +kernel
theorem dX5_issue_21 : decode cX5_issue 21 = .ok (.ifCond .lt 21, 3) := by decide +kernel
theorem dX5_issue_24 : decode cX5_issue 24 = .ok (.iload_n 3, 1) := by decide +kernel
theorem dX5_issue_25 : decode cX5_issue 25 = .ok (.bipush 64, 2) := by decide +kernel
theorem dX5_issue_27 : decode cX5_issue 27 = .ok (.if_icmp .ge 15, 3) := by decide +kernel
theorem dX5_issue_30 : decode cX5_issue 30 = .ok (.iload 4, 2) := by decide +kernel
theorem dX5_issue_32 : decode cX5_issue 32 = .ok (.iconst 1, 1) := by decide +kernel
theorem dX5_issue_33 : decode cX5_issue 33 = .ok (.if_icmp .lt 9, 3) := by decide +kernel
theorem dX5_issue_36 : decode cX5_issue 36 = .ok (.iload 4, 2) := by decide +kernel
theorem dX5_issue_38 : decode cX5_issue 38 = .ok (.iconst 4, 1) := by decide +kernel
theorem dX5_issue_39 : decode cX5_issue 39 = .ok (.if_icmp .le 6, 3) := by decide +kernel
theorem dX5_issue_42 : decode cX5_issue 42 = .ok (.bipush (-3), 2) := by decide +kernel
theorem dX5_issue_44 : decode cX5_issue 44 = .ok (.ireturn, 1) := by decide +kernel
theorem dX5_issue_45 : decode cX5_issue 45 = .ok (.aload 5, 2) := by decide +kernel
theorem dX5_issue_47 : decode cX5_issue 47 = .ok (.getfield 133, 3) := by decide +kernel
theorem dX5_issue_50 : decode cX5_issue 50 = .ok (.ifCond .eq 6, 3) := by decide +kernel
theorem dX5_issue_53 : decode cX5_issue 53 = .ok (.bipush (-4), 2) := by decide +kernel
theorem dX5_issue_55 : decode cX5_issue 55 = .ok (.ireturn, 1) := by decide +kernel
theorem dX5_issue_56 : decode cX5_issue 56 = .ok (.aload 5, 2) := by decide +kernel
theorem dX5_issue_58 : decode cX5_issue 58 = .ok (.iload_n 2, 1) := by decide +kernel
theorem dX5_issue_59 : decode cX5_issue 59 = .ok (.iload_n 3, 1) := by decide +kernel
theorem dX5_issue_60 : decode cX5_issue 60 = .ok (.iload 4, 2) := by decide +kernel
theorem dX5_issue_62 : decode cX5_issue 62 = .ok (.aload_n 0, 1) := by decide +kernel
theorem dX5_issue_63 : decode cX5_issue 63 = .ok (.getfield 179, 3) := by decide +kernel
theorem dX5_issue_66 : decode cX5_issue 66 = .ok (.invokevirtual 182, 3) := by decide +kernel
theorem dX5_issue_69 : decode cX5_issue 69 = .ok (.aload_n 0, 1) := by decide +kernel
theorem dX5_issue_70 : decode cX5_issue 70 = .ok (.dup, 1) := by decide +kernel
theorem dX5_issue_71 : decode cX5_issue 71 = .ok (.getfield 179, 3) := by decide +kernel
theorem dX5_issue_74 : decode cX5_issue 74 = .ok (.iconst 1, 1) := by decide +kernel
theorem dX5_issue_75 : decode cX5_issue 75 = .ok (.iadd, 1) := by decide +kernel
theorem dX5_issue_76 : decode cX5_issue 76 = .ok (.putfield 179, 3) := by decide +kernel
theorem dX5_issue_79 : decode cX5_issue 79 = .ok (.iconst 1, 1) := by decide +kernel
theorem dX5_issue_80 : decode cX5_issue 80 = .ok (.ireturn, 1) := by decide +kernel
theorem dX5_nextCommand_0 : decode cX5_nextCommand 0 = .ok (.aconst_null, 1) := by decide +kernel
theorem dX5_nextCommand_1 : decode cX5_nextCommand 1 = .ok (.astore_n 1, 1) := by decide +kernel
theorem dX5_nextCommand_2 : decode cX5_nextCommand 2 = .ok (.aload_n 0, 1) := by decide +kernel
theorem dX5_nextCommand_3 : decode cX5_nextCommand 3 = .ok (.getfield 44, 3) := by decide +kernel
theorem dX5_nextCommand_6 : decode cX5_nextCommand 6 = .ok (.astore_n 2, 1) := by decide +kernel
theorem dX5_nextCommand_7 : decode cX5_nextCommand 7 = .ok (.aload_n 2, 1) := by decide +kernel
theorem dX5_nextCommand_8 : decode cX5_nextCommand 8 = .ok (.arraylength, 1) := by decide +kernel
theorem dX5_nextCommand_9 : decode cX5_nextCommand 9 = .ok (.istore_n 3, 1) := by decide +kernel
theorem dX5_nextCommand_10 : decode cX5_nextCommand 10 = .ok (.iconst 0, 1) := by decide +kernel
theorem dX5_nextCommand_11 : decode cX5_nextCommand 11 = .ok (.istore 4, 2) := by decide +kernel
theorem dX5_nextCommand_13 : decode cX5_nextCommand 13 = .ok (.iload 4, 2) := by decide +kernel
theorem dX5_nextCommand_15 : decode cX5_nextCommand 15 = .ok (.iload_n 3, 1) := by decide +kernel
theorem dX5_nextCommand_16 : decode cX5_nextCommand 16 = .ok (.if_icmp .ge 41, 3) := by decide +kernel
theorem dX5_nextCommand_19 : decode cX5_nextCommand 19 = .ok (.aload_n 2, 1) := by decide +kernel
theorem dX5_nextCommand_20 : decode cX5_nextCommand 20 = .ok (.iload 4, 2) := by decide +kernel
theorem dX5_nextCommand_22 : decode cX5_nextCommand 22 = .ok (.aaload, 1) := by decide +kernel
theorem dX5_nextCommand_23 : decode cX5_nextCommand 23 = .ok (.astore 5, 2) := by decide +kernel
theorem dX5_nextCommand_25 : decode cX5_nextCommand 25 = .ok (.aload 5, 2) := by decide +kernel
theorem dX5_nextCommand_27 : decode cX5_nextCommand 27 = .ok (.getfield 133, 3) := by decide +kernel
theorem dX5_nextCommand_30 : decode cX5_nextCommand 30 = .ok (.iconst 1, 1) := by decide +kernel
theorem dX5_nextCommand_31 : decode cX5_nextCommand 31 = .ok (.if_icmp .ne 20, 3) := by decide +kernel
theorem dX5_nextCommand_34 : decode cX5_nextCommand 34 = .ok (.aload_n 1, 1) := by decide +kernel
theorem dX5_nextCommand_35 : decode cX5_nextCommand 35 = .ok (.ifnull 13, 3) := by decide +kernel
theorem dX5_nextCommand_38 : decode cX5_nextCommand 38 = .ok (.aload_n 0, 1) := by decide +kernel
theorem dX5_nextCommand_39 : decode cX5_nextCommand 39 = .ok (.aload 5, 2) := by decide +kernel
theorem dX5_nextCommand_41 : decode cX5_nextCommand 41 = .ok (.aload_n 1, 1) := by decide +kernel
theorem dX5_nextCommand_42 : decode cX5_nextCommand 42 = .ok (.invokevirtual 185, 3) := by decide +kernel
theorem dX5_nextCommand_45 : decode cX5_nextCommand 45 = .ok (.ifCond .eq 6, 3) := by decide +kernel
theorem dX5_nextCommand_48 : decode cX5_nextCommand 48 = .ok (.aload 5, 2) := by decide +kernel
theorem dX5_nextCommand_50 : decode cX5_nextCommand 50 = .ok (.astore_n 1, 1) := by decide +kernel
theorem dX5_nextCommand_51 : decode cX5_nextCommand 51 = .ok (.iinc 4 1, 3) := by decide +kernel
theorem dX5_nextCommand_54 : decode cX5_nextCommand 54 = .ok (.goto (-41), 3) := by decide +kernel
theorem dX5_nextCommand_57 : decode cX5_nextCommand 57 = .ok (.aload_n 1, 1) := by decide +kernel
theorem dX5_nextCommand_58 : decode cX5_nextCommand 58 = .ok (.areturn, 1) := by decide +kernel
theorem dX5_goesAhead_0 : decode cX5_goesAhead 0 = .ok (.aload_n 0, 1) := by decide +kernel
theorem dX5_goesAhead_1 : decode cX5_goesAhead 1 = .ok (.getfield 52, 3) := by decide +kernel
theorem dX5_goesAhead_4 : decode cX5_goesAhead 4 = .ok (.lookupswitch 64 #[(1, 28), (2, 47)], 28) := by decide +kernel
theorem dX5_goesAhead_32 : decode cX5_goesAhead 32 = .ok (.aload_n 0, 1) := by decide +kernel
theorem dX5_goesAhead_33 : decode cX5_goesAhead 33 = .ok (.aload_n 1, 1) := by decide +kernel
theorem dX5_goesAhead_34 : decode cX5_goesAhead 34 = .ok (.invokevirtual 189, 3) := by decide +kernel
theorem dX5_goesAhead_37 : decode cX5_goesAhead 37 = .ok (.aload_n 0, 1) := by decide +kernel
theorem dX5_goesAhead_38 : decode cX5_goesAhead 38 = .ok (.aload_n 2, 1) := by decide +kernel
theorem dX5_goesAhead_39 : decode cX5_goesAhead 39 = .ok (.invokevirtual 189, 3) := by decide +kernel
theorem dX5_goesAhead_42 : decode cX5_goesAhead 42 = .ok (.if_icmp .ge 7, 3) := by decide +kernel
theorem dX5_goesAhead_45 : decode cX5_goesAhead 45 = .ok (.iconst 1, 1) := by decide +kernel
theorem dX5_goesAhead_46 : decode cX5_goesAhead 46 = .ok (.goto 4, 3) := by decide +kernel
theorem dX5_goesAhead_49 : decode cX5_goesAhead 49 = .ok (.iconst 0, 1) := by decide +kernel
theorem dX5_goesAhead_50 : decode cX5_goesAhead 50 = .ok (.ireturn, 1) := by decide +kernel
theorem dX5_goesAhead_51 : decode cX5_goesAhead 51 = .ok (.aload_n 1, 1) := by decide +kernel
theorem dX5_goesAhead_52 : decode cX5_goesAhead 52 = .ok (.getfield 127, 3) := by decide +kernel
theorem dX5_goesAhead_55 : decode cX5_goesAhead 55 = .ok (.aload_n 2, 1) := by decide +kernel
theorem dX5_goesAhead_56 : decode cX5_goesAhead 56 = .ok (.getfield 127, 3) := by decide +kernel
theorem dX5_goesAhead_59 : decode cX5_goesAhead 59 = .ok (.if_icmp .le 7, 3) := by decide +kernel
theorem dX5_goesAhead_62 : decode cX5_goesAhead 62 = .ok (.iconst 1, 1) := by decide +kernel
theorem dX5_goesAhead_63 : decode cX5_goesAhead 63 = .ok (.goto 4, 3) := by decide +kernel
theorem dX5_goesAhead_66 : decode cX5_goesAhead 66 = .ok (.iconst 0, 1) := by decide +kernel
theorem dX5_goesAhead_67 : decode cX5_goesAhead 67 = .ok (.ireturn, 1) := by decide +kernel
theorem dX5_goesAhead_68 : decode cX5_goesAhead 68 = .ok (.aload_n 1, 1) := by decide +kernel
theorem dX5_goesAhead_69 : decode cX5_goesAhead 69 = .ok (.getfield 192, 3) := by decide +kernel
theorem dX5_goesAhead_72 : decode cX5_goesAhead 72 = .ok (.aload_n 2, 1) := by decide +kernel
theorem dX5_goesAhead_73 : decode cX5_goesAhead 73 = .ok (.getfield 192, 3) := by decide +kernel
theorem dX5_goesAhead_76 : decode cX5_goesAhead 76 = .ok (.if_icmp .ge 7, 3) := by decide +kernel
theorem dX5_goesAhead_79 : decode cX5_goesAhead 79 = .ok (.iconst 1, 1) := by decide +kernel
theorem dX5_goesAhead_80 : decode cX5_goesAhead 80 = .ok (.goto 4, 3) := by decide +kernel
theorem dX5_goesAhead_83 : decode cX5_goesAhead 83 = .ok (.iconst 0, 1) := by decide +kernel
theorem dX5_goesAhead_84 : decode cX5_goesAhead 84 = .ok (.ireturn, 1) := by decide +kernel
theorem dX5_distance_0 : decode cX5_distance 0 = .ok (.aload_n 1, 1) := by decide +kernel
theorem dX5_distance_1 : decode cX5_distance 1 = .ok (.getfield 195, 3) := by decide +kernel
theorem dX5_distance_4 : decode cX5_distance 4 = .ok (.aload_n 0, 1) := by decide +kernel
theorem dX5_distance_5 : decode cX5_distance 5 = .ok (.getfield 117, 3) := by decide +kernel
theorem dX5_distance_8 : decode cX5_distance 8 = .ok (.if_icmp .ge 13, 3) := by decide +kernel
theorem dX5_distance_11 : decode cX5_distance 11 = .ok (.aload_n 1, 1) := by decide +kernel
theorem dX5_distance_12 : decode cX5_distance 12 = .ok (.getfield 195, 3) := by decide +kernel
theorem dX5_distance_15 : decode cX5_distance 15 = .ok (.bipush 64, 2) := by decide +kernel
theorem dX5_distance_17 : decode cX5_distance 17 = .ok (.iadd, 1) := by decide +kernel
theorem dX5_distance_18 : decode cX5_distance 18 = .ok (.goto 7, 3) := by decide +kernel
theorem dX5_distance_21 : decode cX5_distance 21 = .ok (.aload_n 1, 1) := by decide +kernel
theorem dX5_distance_22 : decode cX5_distance 22 = .ok (.getfield 195, 3) := by decide +kernel
theorem dX5_distance_25 : decode cX5_distance 25 = .ok (.ireturn, 1) := by decide +kernel
theorem dX5_carryOut_0 : decode cX5_carryOut 0 = .ok (.aload_n 0, 1) := by decide +kernel
theorem dX5_carryOut_1 : decode cX5_carryOut 1 = .ok (.getfield 39, 3) := by decide +kernel
theorem dX5_carryOut_4 : decode cX5_carryOut 4 = .ok (.aload_n 1, 1) := by decide +kernel
theorem dX5_carryOut_5 : decode cX5_carryOut 5 = .ok (.invokevirtual 198, 3) := by decide +kernel
theorem dX5_carryOut_8 : decode cX5_carryOut 8 = .ok (.aload_n 0, 1) := by decide +kernel
theorem dX5_carryOut_9 : decode cX5_carryOut 9 = .ok (.getfield 21, 3) := by decide +kernel
theorem dX5_carryOut_12 : decode cX5_carryOut 12 = .ok (.aload_n 0, 1) := by decide +kernel
theorem dX5_carryOut_13 : decode cX5_carryOut 13 = .ok (.getfield 39, 3) := by decide +kernel
theorem dX5_carryOut_16 : decode cX5_carryOut 16 = .ok (.invokevirtual 202, 3) := by decide +kernel
theorem dX5_carryOut_19 : decode cX5_carryOut 19 = .ok (.ifCond .ne 5, 3) := by decide +kernel
theorem dX5_carryOut_22 : decode cX5_carryOut 22 = .ok (.iconst 1, 1) := by decide +kernel
theorem dX5_carryOut_23 : decode cX5_carryOut 23 = .ok (.ireturn, 1) := by decide +kernel
theorem dX5_carryOut_24 : decode cX5_carryOut 24 = .ok (.aload_n 1, 1) := by decide +kernel
theorem dX5_carryOut_25 : decode cX5_carryOut 25 = .ok (.invokevirtual 114, 3) := by decide +kernel
theorem dX5_carryOut_28 : decode cX5_carryOut 28 = .ok (.bipush 32, 2) := by decide +kernel
theorem dX5_carryOut_30 : decode cX5_carryOut 30 = .ok (.if_icmp .ge 7, 3) := by decide +kernel
theorem dX5_carryOut_33 : decode cX5_carryOut 33 = .ok (.iconst 0, 1) := by decide +kernel
theorem dX5_carryOut_34 : decode cX5_carryOut 34 = .ok (.goto 4, 3) := by decide +kernel
theorem dX5_carryOut_37 : decode cX5_carryOut 37 = .ok (.iconst 2, 1) := by decide +kernel
theorem dX5_carryOut_38 : decode cX5_carryOut 38 = .ok (.istore_n 2, 1) := by decide +kernel
theorem dX5_carryOut_39 : decode cX5_carryOut 39 = .ok (.iload_n 2, 1) := by decide +kernel
theorem dX5_carryOut_40 : decode cX5_carryOut 40 = .ok (.ifCond .ne 10, 3) := by decide +kernel
theorem dX5_carryOut_43 : decode cX5_carryOut 43 = .ok (.aload_n 1, 1) := by decide +kernel
theorem dX5_carryOut_44 : decode cX5_carryOut 44 = .ok (.getfield 206, 3) := by decide +kernel
theorem dX5_carryOut_47 : decode cX5_carryOut 47 = .ok (.goto 4, 3) := by decide +kernel
theorem dX5_carryOut_50 : decode cX5_carryOut 50 = .ok (.iconst 0, 1) := by decide +kernel
theorem dX5_carryOut_51 : decode cX5_carryOut 51 = .ok (.istore_n 3, 1) := by decide +kernel
theorem dX5_carryOut_52 : decode cX5_carryOut 52 = .ok (.iconst 0, 1) := by decide +kernel
theorem dX5_carryOut_53 : decode cX5_carryOut 53 = .ok (.istore 4, 2) := by decide +kernel
theorem dX5_carryOut_55 : decode cX5_carryOut 55 = .ok (.iload 4, 2) := by decide +kernel
theorem dX5_carryOut_57 : decode cX5_carryOut 57 = .ok (.iload_n 3, 1) := by decide +kernel
theorem dX5_carryOut_58 : decode cX5_carryOut 58 = .ok (.if_icmp .ge 79, 3) := by decide +kernel
theorem dX5_carryOut_61 : decode cX5_carryOut 61 = .ok (.aload_n 1, 1) := by decide +kernel
theorem dX5_carryOut_62 : decode cX5_carryOut 62 = .ok (.getfield 136, 3) := by decide +kernel
theorem dX5_carryOut_65 : decode cX5_carryOut 65 = .ok (.ifCond .ne 20, 3) := by decide +kernel
theorem dX5_carryOut_68 : decode cX5_carryOut 68 = .ok (.aload_n 0, 1) := by decide +kernel
theorem dX5_carryOut_69 : decode cX5_carryOut 69 = .ok (.getfield 28, 3) := by decide +kernel
theorem dX5_carryOut_72 : decode cX5_carryOut 72 = .ok (.aload_n 1, 1) := by decide +kernel
theorem dX5_carryOut_73 : decode cX5_carryOut 73 = .ok (.getfield 195, 3) := by decide +kernel
theorem dX5_carryOut_76 : decode cX5_carryOut 76 = .ok (.iload 4, 2) := by decide +kernel
theorem dX5_carryOut_78 : decode cX5_carryOut 78 = .ok (.iadd, 1) := by decide +kernel
theorem dX5_carryOut_79 : decode cX5_carryOut 79 = .ok (.invokevirtual 149, 3) := by decide +kernel
theorem dX5_carryOut_82 : decode cX5_carryOut 82 = .ok (.goto 9, 3) := by decide +kernel
theorem dX5_carryOut_85 : decode cX5_carryOut 85 = .ok (.aload_n 1, 1) := by decide +kernel
theorem dX5_carryOut_86 : decode cX5_carryOut 86 = .ok (.iload 4, 2) := by decide +kernel
theorem dX5_carryOut_88 : decode cX5_carryOut 88 = .ok (.invokevirtual 209, 3) := by decide +kernel
theorem dX5_carryOut_91 : decode cX5_carryOut 91 = .ok (.istore 5, 2) := by decide +kernel
theorem dX5_carryOut_93 : decode cX5_carryOut 93 = .ok (.aload_n 0, 1) := by decide +kernel
theorem dX5_carryOut_94 : decode cX5_carryOut 94 = .ok (.getfield 39, 3) := by decide +kernel
theorem dX5_carryOut_97 : decode cX5_carryOut 97 = .ok (.aload_n 1, 1) := by decide +kernel
theorem dX5_carryOut_98 : decode cX5_carryOut 98 = .ok (.getfield 127, 3) := by decide +kernel
theorem dX5_carryOut_101 : decode cX5_carryOut 101 = .ok (.iload 5, 2) := by decide +kernel
theorem dX5_carryOut_103 : decode cX5_carryOut 103 = .ok (.invokevirtual 212, 3) := by decide +kernel
theorem dX5_carryOut_106 : decode cX5_carryOut 106 = .ok (.aload_n 0, 1) := by decide +kernel
theorem dX5_carryOut_107 : decode cX5_carryOut 107 = .ok (.getfield 21, 3) := by decide +kernel
theorem dX5_carryOut_110 : decode cX5_carryOut 110 = .ok (.aload_n 0, 1) := by decide +kernel
theorem dX5_carryOut_111 : decode cX5_carryOut 111 = .ok (.getfield 39, 3) := by decide +kernel
theorem dX5_carryOut_114 : decode cX5_carryOut 114 = .ok (.invokevirtual 202, 3) := by decide +kernel
theorem dX5_carryOut_117 : decode cX5_carryOut 117 = .ok (.ifCond .ne 5, 3) := by decide +kernel
theorem dX5_carryOut_120 : decode cX5_carryOut 120 = .ok (.iconst 1, 1) := by decide +kernel
theorem dX5_carryOut_121 : decode cX5_carryOut 121 = .ok (.ireturn, 1) := by decide +kernel
theorem dX5_carryOut_122 : decode cX5_carryOut 122 = .ok (.aload_n 0, 1) := by decide +kernel
theorem dX5_carryOut_123 : decode cX5_carryOut 123 = .ok (.aload_n 1, 1) := by decide +kernel
theorem dX5_carryOut_124 : decode cX5_carryOut 124 = .ok (.iload 4, 2) := by decide +kernel
theorem dX5_carryOut_126 : decode cX5_carryOut 126 = .ok (.iload 5, 2) := by decide +kernel
theorem dX5_carryOut_128 : decode cX5_carryOut 128 = .ok (.invokevirtual 216, 3) := by decide +kernel
theorem dX5_carryOut_131 : decode cX5_carryOut 131 = .ok (.iinc 4 1, 3) := by decide +kernel
theorem dX5_carryOut_134 : decode cX5_carryOut 134 = .ok (.goto (-79), 3) := by decide +kernel
theorem dX5_carryOut_137 : decode cX5_carryOut 137 = .ok (.aload_n 1, 1) := by decide +kernel
theorem dX5_carryOut_138 : decode cX5_carryOut 138 = .ok (.getfield 136, 3) := by decide +kernel
theorem dX5_carryOut_141 : decode cX5_carryOut 141 = .ok (.iconst 3, 1) := by decide +kernel
theorem dX5_carryOut_142 : decode cX5_carryOut 142 = .ok (.if_icmp .ne 10, 3) := by decide +kernel
theorem dX5_carryOut_145 : decode cX5_carryOut 145 = .ok (.aload_n 0, 1) := by decide +kernel
theorem dX5_carryOut_146 : decode cX5_carryOut 146 = .ok (.getfield 28, 3) := by decide +kernel
theorem dX5_carryOut_149 : decode cX5_carryOut 149 = .ok (.invokevirtual 220, 3) := by decide +kernel
theorem dX5_carryOut_152 : decode cX5_carryOut 152 = .ok (.aload_n 0, 1) := by decide +kernel
theorem dX5_carryOut_153 : decode cX5_carryOut 153 = .ok (.getfield 39, 3) := by decide +kernel
theorem dX5_carryOut_156 : decode cX5_carryOut 156 = .ok (.aload_n 1, 1) := by decide +kernel
theorem dX5_carryOut_157 : decode cX5_carryOut 157 = .ok (.getfield 127, 3) := by decide +kernel
theorem dX5_carryOut_160 : decode cX5_carryOut 160 = .ok (.iload_n 2, 1) := by decide +kernel
theorem dX5_carryOut_161 : decode cX5_carryOut 161 = .ok (.invokevirtual 223, 3) := by decide +kernel
theorem dX5_carryOut_164 : decode cX5_carryOut 164 = .ok (.aload_n 0, 1) := by decide +kernel
theorem dX5_carryOut_165 : decode cX5_carryOut 165 = .ok (.getfield 21, 3) := by decide +kernel
theorem dX5_carryOut_168 : decode cX5_carryOut 168 = .ok (.aload_n 0, 1) := by decide +kernel
theorem dX5_carryOut_169 : decode cX5_carryOut 169 = .ok (.getfield 39, 3) := by decide +kernel
theorem dX5_carryOut_172 : decode cX5_carryOut 172 = .ok (.invokevirtual 202, 3) := by decide +kernel
theorem dX5_carryOut_175 : decode cX5_carryOut 175 = .ok (.ifCond .eq 7, 3) := by decide +kernel
theorem dX5_carryOut_178 : decode cX5_carryOut 178 = .ok (.iload_n 2, 1) := by decide +kernel
theorem dX5_carryOut_179 : decode cX5_carryOut 179 = .ok (.goto 4, 3) := by decide +kernel
theorem dX5_carryOut_182 : decode cX5_carryOut 182 = .ok (.iconst 1, 1) := by decide +kernel
theorem dX5_carryOut_183 : decode cX5_carryOut 183 = .ok (.ireturn, 1) := by decide +kernel
theorem dX5_keepNumber_0 : decode cX5_keepNumber 0 = .ok (.aload_n 1, 1) := by decide +kernel
theorem dX5_keepNumber_1 : decode cX5_keepNumber 1 = .ok (.getfield 136, 3) := by decide +kernel
theorem dX5_keepNumber_4 : decode cX5_keepNumber 4 = .ok (.ifCond .ne 12, 3) := by decide +kernel
theorem dX5_keepNumber_7 : decode cX5_keepNumber 7 = .ok (.aload_n 1, 1) := by decide +kernel
theorem dX5_keepNumber_8 : decode cX5_keepNumber 8 = .ok (.iload_n 2, 1) := by decide +kernel
theorem dX5_keepNumber_9 : decode cX5_keepNumber 9 = .ok (.iload_n 3, 1) := by decide +kernel
theorem dX5_keepNumber_10 : decode cX5_keepNumber 10 = .ok (.invokevirtual 226, 3) := by decide +kernel
theorem dX5_keepNumber_13 : decode cX5_keepNumber 13 = .ok (.goto 42, 3) := by decide +kernel
theorem dX5_keepNumber_16 : decode cX5_keepNumber 16 = .ok (.aload_n 1, 1) := by decide +kernel
theorem dX5_keepNumber_17 : decode cX5_keepNumber 17 = .ok (.getfield 136, 3) := by decide +kernel
theorem dX5_keepNumber_20 : decode cX5_keepNumber 20 = .ok (.iconst 1, 1) := by decide +kernel
theorem dX5_keepNumber_21 : decode cX5_keepNumber 21 = .ok (.if_icmp .ne 20, 3) := by decide +kernel
theorem dX5_keepNumber_24 : decode cX5_keepNumber 24 = .ok (.aload_n 0, 1) := by decide +kernel
theorem dX5_keepNumber_25 : decode cX5_keepNumber 25 = .ok (.getfield 28, 3) := by decide +kernel
theorem dX5_keepNumber_28 : decode cX5_keepNumber 28 = .ok (.aload_n 1, 1) := by decide +kernel
theorem dX5_keepNumber_29 : decode cX5_keepNumber 29 = .ok (.getfield 195, 3) := by decide +kernel
theorem dX5_keepNumber_32 : decode cX5_keepNumber 32 = .ok (.iload_n 2, 1) := by decide +kernel
theorem dX5_keepNumber_33 : decode cX5_keepNumber 33 = .ok (.iadd, 1) := by decide +kernel
theorem dX5_keepNumber_34 : decode cX5_keepNumber 34 = .ok (.iload_n 3, 1) := by decide +kernel
theorem dX5_keepNumber_35 : decode cX5_keepNumber 35 = .ok (.invokevirtual 227, 3) := by decide +kernel
theorem dX5_keepNumber_38 : decode cX5_keepNumber 38 = .ok (.goto 17, 3) := by decide +kernel
theorem dX5_keepNumber_41 : decode cX5_keepNumber 41 = .ok (.aload_n 0, 1) := by decide +kernel
theorem dX5_keepNumber_42 : decode cX5_keepNumber 42 = .ok (.getfield 28, 3) := by decide +kernel
theorem dX5_keepNumber_45 : decode cX5_keepNumber 45 = .ok (.aload_n 1, 1) := by decide +kernel
theorem dX5_keepNumber_46 : decode cX5_keepNumber 46 = .ok (.getfield 195, 3) := by decide +kernel
theorem dX5_keepNumber_49 : decode cX5_keepNumber 49 = .ok (.iload_n 2, 1) := by decide +kernel
theorem dX5_keepNumber_50 : decode cX5_keepNumber 50 = .ok (.iadd, 1) := by decide +kernel
theorem dX5_keepNumber_51 : decode cX5_keepNumber 51 = .ok (.iload_n 3, 1) := by decide +kernel
theorem dX5_keepNumber_52 : decode cX5_keepNumber 52 = .ok (.invokevirtual 230, 3) := by decide +kernel
theorem dX5_keepNumber_55 : decode cX5_keepNumber 55 = .ok (.return_, 1) := by decide +kernel
theorem dX6_init_0 : decode cX6_init 0 = .ok (.aload_n 0, 1) := by decide +kernel
theorem dX6_init_1 : decode cX6_init 1 = .ok (.invokespecial 1, 3) := by decide +kernel
theorem dX6_init_4 : decode cX6_init 4 = .ok (.aload_n 0, 1) := by decide +kernel
theorem dX6_init_5 : decode cX6_init 5 = .ok (.sipush 252, 3) := by decide +kernel
theorem dX6_init_8 : decode cX6_init 8 = .ok (.newarray .int, 2) := by decide +kernel
theorem dX6_init_10 : decode cX6_init 10 = .ok (.putfield 7, 3) := by decide +kernel
theorem dX6_init_13 : decode cX6_init 13 = .ok (.aload_n 0, 1) := by decide +kernel
theorem dX6_init_14 : decode cX6_init 14 = .ok (.sipush 1024, 3) := by decide +kernel
theorem dX6_init_17 : decode cX6_init 17 = .ok (.newarray .int, 2) := by decide +kernel
theorem dX6_init_19 : decode cX6_init 19 = .ok (.putfield 13, 3) := by decide +kernel
theorem dX6_init_22 : decode cX6_init 22 = .ok (.aload_n 0, 1) := by decide +kernel
theorem dX6_init_23 : decode cX6_init 23 = .ok (.bipush 12, 2) := by decide +kernel
theorem dX6_init_25 : decode cX6_init 25 = .ok (.newarray .int, 2) := by decide +kernel
theorem dX6_init_27 : decode cX6_init 27 = .ok (.putfield 16, 3) := by decide +kernel
theorem dX6_init_30 : decode cX6_init 30 = .ok (.aload_n 0, 1) := by decide +kernel
theorem dX6_init_31 : decode cX6_init 31 = .ok (.bipush 12, 2) := by decide +kernel
theorem dX6_init_33 : decode cX6_init 33 = .ok (.newarray .int, 2) := by decide +kernel
theorem dX6_init_35 : decode cX6_init 35 = .ok (.putfield 19, 3) := by decide +kernel
theorem dX6_init_38 : decode cX6_init 38 = .ok (.aload_n 0, 1) := by decide +kernel
theorem dX6_init_39 : decode cX6_init 39 = .ok (.bipush 30, 2) := by decide +kernel
theorem dX6_init_41 : decode cX6_init 41 = .ok (.newarray .int, 2) := by decide +kernel
theorem dX6_init_43 : decode cX6_init 43 = .ok (.putfield 22, 3) := by decide +kernel
theorem dX6_init_46 : decode cX6_init 46 = .ok (.aload_n 0, 1) := by decide +kernel
theorem dX6_init_47 : decode cX6_init 47 = .ok (.bipush 30, 2) := by decide +kernel
theorem dX6_init_49 : decode cX6_init 49 = .ok (.newarray .int, 2) := by decide +kernel
theorem dX6_init_51 : decode cX6_init 51 = .ok (.putfield 25, 3) := by decide +kernel
theorem dX6_init_54 : decode cX6_init 54 = .ok (.aload_n 0, 1) := by decide +kernel
theorem dX6_init_55 : decode cX6_init 55 = .ok (.bipush 16, 2) := by decide +kernel
theorem dX6_init_57 : decode cX6_init 57 = .ok (.newarray .int, 2) := by decide +kernel
theorem dX6_init_59 : decode cX6_init 59 = .ok (.putfield 28, 3) := by decide +kernel
theorem dX6_init_62 : decode cX6_init 62 = .ok (.aload_n 0, 1) := by decide +kernel
theorem dX6_init_63 : decode cX6_init 63 = .ok (.sipush 180, 3) := by decide +kernel
theorem dX6_init_66 : decode cX6_init 66 = .ok (.newarray .int, 2) := by decide +kernel
theorem dX6_init_68 : decode cX6_init 68 = .ok (.putfield 31, 3) := by decide +kernel
theorem dX6_init_71 : decode cX6_init 71 = .ok (.aload_n 0, 1) := by decide +kernel
theorem dX6_init_72 : decode cX6_init 72 = .ok (.bipush 12, 2) := by decide +kernel
theorem dX6_init_74 : decode cX6_init 74 = .ok (.newarray .int, 2) := by decide +kernel
theorem dX6_init_76 : decode cX6_init 76 = .ok (.putfield 34, 3) := by decide +kernel
theorem dX6_init_79 : decode cX6_init 79 = .ok (.aload_n 0, 1) := by decide +kernel
theorem dX6_init_80 : decode cX6_init 80 = .ok (.bipush 18, 2) := by decide +kernel
theorem dX6_init_82 : decode cX6_init 82 = .ok (.newarray .int, 2) := by decide +kernel
theorem dX6_init_84 : decode cX6_init 84 = .ok (.putfield 37, 3) := by decide +kernel
theorem dX6_init_87 : decode cX6_init 87 = .ok (.aload_n 0, 1) := by decide +kernel
theorem dX6_init_88 : decode cX6_init 88 = .ok (.bipush 32, 2) := by decide +kernel
theorem dX6_init_90 : decode cX6_init 90 = .ok (.newarray .int, 2) := by decide +kernel
theorem dX6_init_92 : decode cX6_init 92 = .ok (.putfield 40, 3) := by decide +kernel
theorem dX6_init_95 : decode cX6_init 95 = .ok (.aload_n 0, 1) := by decide +kernel
theorem dX6_init_96 : decode cX6_init 96 = .ok (.bipush 6, 2) := by decide +kernel
theorem dX6_init_98 : decode cX6_init 98 = .ok (.newarray .int, 2) := by decide +kernel
theorem dX6_init_100 : decode cX6_init 100 = .ok (.putfield 43, 3) := by decide +kernel
theorem dX6_init_103 : decode cX6_init 103 = .ok (.aload_n 0, 1) := by decide +kernel
theorem dX6_init_104 : decode cX6_init 104 = .ok (.bipush 6, 2) := by decide +kernel
theorem dX6_init_106 : decode cX6_init 106 = .ok (.newarray .int, 2) := by decide +kernel
theorem dX6_init_108 : decode cX6_init 108 = .ok (.putfield 46, 3) := by decide +kernel
theorem dX6_init_111 : decode cX6_init 111 = .ok (.aload_n 0, 1) := by decide +kernel
theorem dX6_init_112 : decode cX6_init 112 = .ok (.bipush 8, 2) := by decide +kernel
theorem dX6_init_114 : decode cX6_init 114 = .ok (.newarray .int, 2) := by decide +kernel
theorem dX6_init_116 : decode cX6_init 116 = .ok (.putfield 49, 3) := by decide +kernel
theorem dX6_init_119 : decode cX6_init 119 = .ok (.aload_n 0, 1) := by decide +kernel
theorem dX6_init_120 : decode cX6_init 120 = .ok (.bipush 8, 2) := by decide +kernel
theorem dX6_init_122 : decode cX6_init 122 = .ok (.newarray .int, 2) := by decide +kernel
theorem dX6_init_124 : decode cX6_init 124 = .ok (.putfield 52, 3) := by decide +kernel
theorem dX6_init_127 : decode cX6_init 127 = .ok (.aload_n 0, 1) := by decide +kernel
theorem dX6_init_128 : decode cX6_init 128 = .ok (.bipush 8, 2) := by decide +kernel
theorem dX6_init_130 : decode cX6_init 130 = .ok (.newarray .int, 2) := by decide +kernel
theorem dX6_init_132 : decode cX6_init 132 = .ok (.putfield 55, 3) := by decide +kernel
theorem dX6_init_135 : decode cX6_init 135 = .ok (.aload_n 0, 1) := by decide +kernel
theorem dX6_init_136 : decode cX6_init 136 = .ok (.bipush 8, 2) := by decide +kernel
theorem dX6_init_138 : decode cX6_init 138 = .ok (.newarray .int, 2) := by decide +kernel
theorem dX6_init_140 : decode cX6_init 140 = .ok (.putfield 58, 3) := by decide +kernel
theorem dX6_init_143 : decode cX6_init 143 = .ok (.aload_n 0, 1) := by decide +kernel
theorem dX6_init_144 : decode cX6_init 144 = .ok (.bipush 32, 2) := by decide +kernel
theorem dX6_init_146 : decode cX6_init 146 = .ok (.newarray .int, 2) := by decide +kernel
theorem dX6_init_148 : decode cX6_init 148 = .ok (.putfield 61, 3) := by decide +kernel
theorem dX6_init_151 : decode cX6_init 151 = .ok (.aload_n 0, 1) := by decide +kernel
theorem dX6_init_152 : decode cX6_init 152 = .ok (.bipush 8, 2) := by decide +kernel
theorem dX6_init_154 : decode cX6_init 154 = .ok (.newarray .int, 2) := by decide +kernel
theorem dX6_init_156 : decode cX6_init 156 = .ok (.putfield 64, 3) := by decide +kernel
theorem dX6_init_159 : decode cX6_init 159 = .ok (.aload_n 0, 1) := by decide +kernel
theorem dX6_init_160 : decode cX6_init 160 = .ok (.bipush 8, 2) := by decide +kernel
theorem dX6_init_162 : decode cX6_init 162 = .ok (.newarray .int, 2) := by decide +kernel
theorem dX6_init_164 : decode cX6_init 164 = .ok (.putfield 67, 3) := by decide +kernel
theorem dX6_init_167 : decode cX6_init 167 = .ok (.aload_n 0, 1) := by decide +kernel
theorem dX6_init_168 : decode cX6_init 168 = .ok (.iconst 4, 1) := by decide +kernel
theorem dX6_init_169 : decode cX6_init 169 = .ok (.newarray .int, 2) := by decide +kernel
theorem dX6_init_171 : decode cX6_init 171 = .ok (.putfield 70, 3) := by decide +kernel
theorem dX6_init_174 : decode cX6_init 174 = .ok (.iconst 0, 1) := by decide +kernel
theorem dX6_init_175 : decode cX6_init 175 = .ok (.istore_n 1, 1) := by decide +kernel
theorem dX6_init_176 : decode cX6_init 176 = .ok (.iconst 0, 1) := by decide +kernel
theorem dX6_init_177 : decode cX6_init 177 = .ok (.istore_n 2, 1) := by decide +kernel
theorem dX6_init_178 : decode cX6_init 178 = .ok (.iconst 0, 1) := by decide +kernel
theorem dX6_init_179 : decode cX6_init 179 = .ok (.istore_n 3, 1) := by decide +kernel
theorem dX6_init_180 : decode cX6_init 180 = .ok (.iload_n 3, 1) := by decide +kernel
theorem dX6_init_181 : decode cX6_init 181 = .ok (.sipush 1024, 3) := by decide +kernel
theorem dX6_init_184 : decode cX6_init 184 = .ok (.if_icmp .ge 68, 3) := by decide +kernel
theorem dX6_init_187 : decode cX6_init 187 = .ok (.iload_n 3, 1) := by decide +kernel
theorem dX6_init_188 : decode cX6_init 188 = .ok (.invokestatic 73, 3) := by decide +kernel
theorem dX6_init_191 : decode cX6_init 191 = .ok (.istore 4, 2) := by decide +kernel
theorem dX6_init_193 : decode cX6_init 193 = .ok (.aload_n 0, 1) := by decide +kernel
theorem dX6_init_194 : decode cX6_init 194 = .ok (.getfield 13, 3) := by decide +kernel
theorem dX6_init_197 : decode cX6_init 197 = .ok (.iload_n 3, 1) := by decide +kernel
theorem dX6_init_198 : decode cX6_init 198 = .ok (.iconst (-1), 1) := by decide +kernel
theorem dX6_init_199 : decode cX6_init 199 = .ok (.iastore, 1) := by decide +kernel
theorem dX6_init_200 : decode cX6_init 200 = .ok (.iload 4, 2) := by decide +kernel
theorem dX6_init_202 : decode cX6_init 202 = .ok (.iconst 5, 1) := by decide +kernel
theorem dX6_init_203 : decode cX6_init 203 = .ok (.if_icmp .ne 20, 3) := by decide +kernel
theorem dX6_init_206 : decode cX6_init 206 = .ok (.aload_n 0, 1) := by decide +kernel
theorem dX6_init_207 : decode cX6_init 207 = .ok (.getfield 7, 3) := by decide +kernel
theorem dX6_init_210 : decode cX6_init 210 = .ok (.iload_n 1, 1) := by decide +kernel
theorem dX6_init_211 : decode cX6_init 211 = .ok (.iload_n 3, 1) := by decide +kernel
theorem dX6_init_212 : decode cX6_init 212 = .ok (.iastore, 1) := by decide +kernel
theorem dX6_init_213 : decode cX6_init 213 = .ok (.aload_n 0, 1) := by decide +kernel
theorem dX6_init_214 : decode cX6_init 214 = .ok (.getfield 13, 3) := by decide +kernel
theorem dX6_init_217 : decode cX6_init 217 = .ok (.iload_n 3, 1) := by decide +kernel
theorem dX6_init_218 : decode cX6_init 218 = .ok (.iload_n 1, 1) := by decide +kernel
theorem dX6_init_219 : decode cX6_init 219 = .ok (.iastore, 1) := by decide +kernel
theorem dX6_init_220 : decode cX6_init 220 = .ok (.iinc 1 1, 3) := by decide +kernel
theorem dX6_init_223 : decode cX6_init 223 = .ok (.iload 4, 2) := by decide +kernel
theorem dX6_init_225 : decode cX6_init 225 = .ok (.bipush 6, 2) := by decide +kernel
theorem dX6_init_227 : decode cX6_init 227 = .ok (.if_icmp .ne 19, 3) := by decide +kernel
theorem dX6_init_230 : decode cX6_init 230 = .ok (.iload_n 2, 1) := by decide +kernel
theorem dX6_init_231 : decode cX6_init 231 = .ok (.bipush 12, 2) := by decide +kernel
theorem dX6_init_233 : decode cX6_init 233 = .ok (.if_icmp .ge 13, 3) := by decide +kernel
theorem dX6_init_236 : decode cX6_init 236 = .ok (.aload_n 0, 1) := by decide +kernel
theorem dX6_init_237 : decode cX6_init 237 = .ok (.getfield 16, 3) := by decide +kernel
theorem dX6_init_240 : decode cX6_init 240 = .ok (.iload_n 2, 1) := by decide +kernel
theorem dX6_init_241 : decode cX6_init 241 = .ok (.iload_n 3, 1) := by decide +kernel
theorem dX6_init_242 : decode cX6_init 242 = .ok (.iastore, 1) := by decide +kernel
theorem dX6_init_243 : decode cX6_init 243 = .ok (.iinc 2 1, 3) := by decide +kernel
theorem dX6_init_246 : decode cX6_init 246 = .ok (.iinc 3 1, 3) := by decide +kernel
theorem dX6_init_249 : decode cX6_init 249 = .ok (.goto (-69), 3) := by decide +kernel
theorem dX6_init_252 : decode cX6_init 252 = .ok (.return_, 1) := by decide +kernel
theorem dX6_ones_0 : decode cX6_ones 0 = .ok (.iconst 0, 1) := by decide +kernel
theorem dX6_ones_1 : decode cX6_ones 1 = .ok (.istore_n 1, 1) := by decide +kernel
theorem dX6_ones_2 : decode cX6_ones 2 = .ok (.iconst 0, 1) := by decide +kernel
theorem dX6_ones_3 : decode cX6_ones 3 = .ok (.istore_n 2, 1) := by decide +kernel
theorem dX6_ones_4 : decode cX6_ones 4 = .ok (.iload_n 2, 1) := by decide +kernel
theorem dX6_ones_5 : decode cX6_ones 5 = .ok (.bipush 10, 2) := by decide +kernel
theorem dX6_ones_7 : decode cX6_ones 7 = .ok (.if_icmp .ge 17, 3) := by decide +kernel
theorem dX6_ones_10 : decode cX6_ones 10 = .ok (.iload_n 1, 1) := by decide +kernel
theorem dX6_ones_11 : decode cX6_ones 11 = .ok (.iload_n 0, 1) := by decide +kernel
theorem dX6_ones_12 : decode cX6_ones 12 = .ok (.iload_n 2, 1) := by decide +kernel
theorem dX6_ones_13 : decode cX6_ones 13 = .ok (.ishr, 1) := by decide +kernel
theorem dX6_ones_14 : decode cX6_ones 14 = .ok (.iconst 1, 1) := by decide +kernel
theorem dX6_ones_15 : decode cX6_ones 15 = .ok (.iand, 1) := by decide +kernel
theorem dX6_ones_16 : decode cX6_ones 16 = .ok (.iadd, 1) := by decide +kernel
theorem dX6_ones_17 : decode cX6_ones 17 = .ok (.istore_n 1, 1) := by decide +kernel
theorem dX6_ones_18 : decode cX6_ones 18 = .ok (.iinc 2 1, 3) := by decide +kernel
theorem dX6_ones_21 : decode cX6_ones 21 = .ok (.goto (-17), 3) := by decide +kernel
theorem dX6_ones_24 : decode cX6_ones 24 = .ok (.iload_n 1, 1) := by decide +kernel
theorem dX6_ones_25 : decode cX6_ones 25 = .ok (.ireturn, 1) := by decide +kernel
theorem dX6_in_0 : decode cX6_in 0 = .ok (.iload_n 0, 1) := by decide +kernel
theorem dX6_in_1 : decode cX6_in 1 = .ok (.iload_n 1, 1) := by decide +kernel
theorem dX6_in_2 : decode cX6_in 2 = .ok (.if_icmp .lt 12, 3) := by decide +kernel
theorem dX6_in_5 : decode cX6_in 5 = .ok (.iload_n 0, 1) := by decide +kernel
theorem dX6_in_6 : decode cX6_in 6 = .ok (.iload_n 2, 1) := by decide +kernel
theorem dX6_in_7 : decode cX6_in 7 = .ok (.if_icmp .gt 7, 3) := by decide +kernel
theorem dX6_in_10 : decode cX6_in 10 = .ok (.iconst 1, 1) := by decide +kernel
theorem dX6_in_11 : decode cX6_in 11 = .ok (.goto 4, 3) := by decide +kernel
theorem dX6_in_14 : decode cX6_in 14 = .ok (.iconst 0, 1) := by decide +kernel
theorem dX6_in_15 : decode cX6_in 15 = .ok (.ireturn, 1) := by decide +kernel
theorem dX6_isEven_0 : decode cX6_isEven 0 = .ok (.iload_n 0, 1) := by decide +kernel
theorem dX6_isEven_1 : decode cX6_isEven 1 = .ok (.sipush 252, 3) := by decide +kernel
theorem dX6_isEven_4 : decode cX6_isEven 4 = .ok (.if_icmp .ge 7, 3) := by decide +kernel
theorem dX6_isEven_7 : decode cX6_isEven 7 = .ok (.iconst 1, 1) := by decide +kernel
theorem dX6_isEven_8 : decode cX6_isEven 8 = .ok (.goto 4, 3) := by decide +kernel
theorem dX6_isEven_11 : decode cX6_isEven 11 = .ok (.iconst 0, 1) := by decide +kernel
theorem dX6_isEven_12 : decode cX6_isEven 12 = .ok (.ireturn, 1) := by decide +kernel
theorem dX6_wordOf_0 : decode cX6_wordOf 0 = .ok (.iload_n 1, 1) := by decide +kernel
theorem dX6_wordOf_1 : decode cX6_wordOf 1 = .ok (.invokestatic 77, 3) := by decide +kernel
theorem dX6_wordOf_4 : decode cX6_wordOf 4 = .ok (.ifCond .eq 10, 3) := by decide +kernel
theorem dX6_wordOf_7 : decode cX6_wordOf 7 = .ok (.aload_n 0, 1) := by decide +kernel
theorem dX6_wordOf_8 : decode cX6_wordOf 8 = .ok (.getfield 7, 3) := by decide +kernel
theorem dX6_wordOf_11 : decode cX6_wordOf 11 = .ok (.iload_n 1, 1) := by decide +kernel
theorem dX6_wordOf_12 : decode cX6_wordOf 12 = .ok (.iaload, 1) := by decide +kernel
theorem dX6_wordOf_13 : decode cX6_wordOf 13 = .ok (.ireturn, 1) := by decide +kernel
theorem dX6_wordOf_14 : decode cX6_wordOf 14 = .ok (.aload_n 0, 1) := by decide +kernel
theorem dX6_wordOf_15 : decode cX6_wordOf 15 = .ok (.getfield 16, 3) := by decide +kernel
theorem dX6_wordOf_18 : decode cX6_wordOf 18 = .ok (.iload_n 1, 1) := by decide +kernel
theorem dX6_wordOf_19 : decode cX6_wordOf 19 = .ok (.sipush 252, 3) := by decide +kernel
theorem dX6_wordOf_22 : decode cX6_wordOf 22 = .ok (.isub, 1) := by decide +kernel
theorem dX6_wordOf_23 : decode cX6_wordOf 23 = .ok (.iaload, 1) := by decide +kernel
theorem dX6_wordOf_24 : decode cX6_wordOf 24 = .ok (.istore_n 3, 1) := by decide +kernel
theorem dX6_wordOf_25 : decode cX6_wordOf 25 = .ok (.iload_n 2, 1) := by decide +kernel
theorem dX6_wordOf_26 : decode cX6_wordOf 26 = .ok (.ifCond .eq 11, 3) := by decide +kernel
theorem dX6_wordOf_29 : decode cX6_wordOf 29 = .ok (.sipush 1023, 3) := by decide +kernel
theorem dX6_wordOf_32 : decode cX6_wordOf 32 = .ok (.iload_n 3, 1) := by decide +kernel
theorem dX6_wordOf_33 : decode cX6_wordOf 33 = .ok (.isub, 1) := by decide +kernel
theorem dX6_wordOf_34 : decode cX6_wordOf 34 = .ok (.goto 4, 3) := by decide +kernel
theorem dX6_wordOf_37 : decode cX6_wordOf 37 = .ok (.iload_n 3, 1) := by decide +kernel
theorem dX6_wordOf_38 : decode cX6_wordOf 38 = .ok (.ireturn, 1) := by decide +kernel
theorem dX6_unevenOf_0 : decode cX6_unevenOf 0 = .ok (.iload_n 2, 1) := by decide +kernel
theorem dX6_unevenOf_1 : decode cX6_unevenOf 1 = .ok (.ifCond .eq 11, 3) := by decide +kernel
theorem dX6_unevenOf_4 : decode cX6_unevenOf 4 = .ok (.sipush 1023, 3) := by decide +kernel
theorem dX6_unevenOf_7 : decode cX6_unevenOf 7 = .ok (.iload_n 1, 1) := by decide +kernel
theorem dX6_unevenOf_8 : decode cX6_unevenOf 8 = .ok (.isub, 1) := by decide +kernel
theorem dX6_unevenOf_9 : decode cX6_unevenOf 9 = .ok (.goto 4, 3) := by decide +kernel
theorem dX6_unevenOf_12 : decode cX6_unevenOf 12 = .ok (.iload_n 1, 1) := by decide +kernel
theorem dX6_unevenOf_13 : decode cX6_unevenOf 13 = .ok (.istore_n 3, 1) := by decide +kernel
theorem dX6_unevenOf_14 : decode cX6_unevenOf 14 = .ok (.iconst 0, 1) := by decide +kernel
theorem dX6_unevenOf_15 : decode cX6_unevenOf 15 = .ok (.istore 4, 2) := by decide +kernel
theorem dX6_unevenOf_17 : decode cX6_unevenOf 17 = .ok (.iload 4, 2) := by decide +kernel
theorem dX6_unevenOf_19 : decode cX6_unevenOf 19 = .ok (.bipush 12, 2) := by decide +kernel
theorem dX6_unevenOf_21 : decode cX6_unevenOf 21 = .ok (.if_icmp .ge 23, 3) := by decide +kernel
theorem dX6_unevenOf_24 : decode cX6_unevenOf 24 = .ok (.aload_n 0, 1) := by decide +kernel
theorem dX6_unevenOf_25 : decode cX6_unevenOf 25 = .ok (.getfield 16, 3) := by decide +kernel
theorem dX6_unevenOf_28 : decode cX6_unevenOf 28 = .ok (.iload 4, 2) := by decide +kernel
theorem dX6_unevenOf_30 : decode cX6_unevenOf 30 = .ok (.iaload, 1) := by decide +kernel
theorem dX6_unevenOf_31 : decode cX6_unevenOf 31 = .ok (.iload_n 3, 1) := by decide +kernel
theorem dX6_unevenOf_32 : decode cX6_unevenOf 32 = .ok (.if_icmp .ne 6, 3) := by decide +kernel
theorem dX6_unevenOf_35 : decode cX6_unevenOf 35 = .ok (.iload 4, 2) := by decide +kernel
theorem dX6_unevenOf_37 : decode cX6_unevenOf 37 = .ok (.ireturn, 1) := by decide +kernel
theorem dX6_unevenOf_38 : decode cX6_unevenOf 38 = .ok (.iinc 4 1, 3) := by decide +kernel
theorem dX6_unevenOf_41 : decode cX6_unevenOf 41 = .ok (.goto (-24), 3) := by decide +kernel
theorem dX6_unevenOf_44 : decode cX6_unevenOf 44 = .ok (.iconst (-1), 1) := by decide +kernel
theorem dX6_unevenOf_45 : decode cX6_unevenOf 45 = .ok (.ireturn, 1) := by decide +kernel
theorem dX6_encode_0 : decode cX6_encode 0 = .ok (.iload_n 1, 1) := by decide +kernel
theorem dX6_encode_1 : decode cX6_encode 1 = .ok (.iconst 0, 1) := by decide +kernel
theorem dX6_encode_2 : decode cX6_encode 2 = .ok (.sipush 263, 3) := by decide +kernel
theorem dX6_encode_5 : decode cX6_encode 5 = .ok (.invokestatic 81, 3) := by decide +kernel
theorem dX6_encode_8 : decode cX6_encode 8 = .ok (.ifCond .eq 12, 3) := by decide +kernel
theorem dX6_encode_11 : decode cX6_encode 11 = .ok (.aload_n 0, 1) := by decide +kernel
theorem dX6_encode_12 : decode cX6_encode 12 = .ok (.iload_n 1, 1) := by decide +kernel
theorem dX6_encode_13 : decode cX6_encode 13 = .ok (.iload_n 2, 1) := by decide +kernel
theorem dX6_encode_14 : decode cX6_encode 14 = .ok (.invokevirtual 85, 3) := by decide +kernel
theorem dX6_encode_17 : decode cX6_encode 17 = .ok (.goto 5, 3) := by decide +kernel
theorem dX6_encode_20 : decode cX6_encode 20 = .ok (.bipush (-3), 2) := by decide +kernel
theorem dX6_encode_22 : decode cX6_encode 22 = .ok (.ireturn, 1) := by decide +kernel
theorem dX6_valueOf_0 : decode cX6_valueOf 0 = .ok (.aload_n 0, 1) := by decide +kernel
theorem dX6_valueOf_1 : decode cX6_valueOf 1 = .ok (.getfield 13, 3) := by decide +kernel
theorem dX6_valueOf_4 : decode cX6_valueOf 4 = .ok (.iload_n 1, 1) := by decide +kernel
theorem dX6_valueOf_5 : decode cX6_valueOf 5 = .ok (.iaload, 1) := by decide +kernel
theorem dX6_valueOf_6 : decode cX6_valueOf 6 = .ok (.iconst (-1), 1) := by decide +kernel
theorem dX6_valueOf_7 : decode cX6_valueOf 7 = .ok (.if_icmp .eq 10, 3) := by decide +kernel
theorem dX6_valueOf_10 : decode cX6_valueOf 10 = .ok (.aload_n 0, 1) := by decide +kernel
theorem dX6_valueOf_11 : decode cX6_valueOf 11 = .ok (.getfield 13, 3) := by decide +kernel
theorem dX6_valueOf_14 : decode cX6_valueOf 14 = .ok (.iload_n 1, 1) := by decide +kernel
theorem dX6_valueOf_15 : decode cX6_valueOf 15 = .ok (.iaload, 1) := by decide +kernel
theorem dX6_valueOf_16 : decode cX6_valueOf 16 = .ok (.ireturn, 1) := by decide +kernel
theorem dX6_valueOf_17 : decode cX6_valueOf 17 = .ok (.aload_n 0, 1) := by decide +kernel
theorem dX6_valueOf_18 : decode cX6_valueOf 18 = .ok (.iload_n 1, 1) := by decide +kernel
theorem dX6_valueOf_19 : decode cX6_valueOf 19 = .ok (.iload_n 2, 1) := by decide +kernel
theorem dX6_valueOf_20 : decode cX6_valueOf 20 = .ok (.invokevirtual 89, 3) := by decide +kernel
theorem dX6_valueOf_23 : decode cX6_valueOf 23 = .ok (.istore_n 3, 1) := by decide +kernel
theorem dX6_valueOf_24 : decode cX6_valueOf 24 = .ok (.iload_n 3, 1) := by decide +kernel
theorem dX6_valueOf_25 : decode cX6_valueOf 25 = .ok (.iconst (-1), 1) := by decide +kernel
theorem dX6_valueOf_26 : decode cX6_valueOf 26 = .ok (.if_icmp .ne 7, 3) := by decide +kernel
theorem dX6_valueOf_29 : decode cX6_valueOf 29 = .ok (.iconst (-1), 1) := by decide +kernel
theorem dX6_valueOf_30 : decode cX6_valueOf 30 = .ok (.goto 8, 3) := by decide +kernel
theorem dX6_valueOf_33 : decode cX6_valueOf 33 = .ok (.sipush 252, 3) := by decide +kernel
theorem dX6_valueOf_36 : decode cX6_valueOf 36 = .ok (.iload_n 3, 1) := by decide +kernel
theorem dX6_valueOf_37 : decode cX6_valueOf 37 = .ok (.iadd, 1) := by decide +kernel
theorem dX6_valueOf_38 : decode cX6_valueOf 38 = .ok (.ireturn, 1) := by decide +kernel
theorem dX6_decode_0 : decode cX6_decode 0 = .ok (.iload_n 1, 1) := by decide +kernel
theorem dX6_decode_1 : decode cX6_decode 1 = .ok (.iconst 0, 1) := by decide +kernel
theorem dX6_decode_2 : decode cX6_decode 2 = .ok (.sipush 1023, 3) := by decide +kernel
theorem dX6_decode_5 : decode cX6_decode 5 = .ok (.invokestatic 81, 3) := by decide +kernel
theorem dX6_decode_8 : decode cX6_decode 8 = .ok (.ifCond .eq 12, 3) := by decide +kernel
theorem dX6_decode_11 : decode cX6_decode 11 = .ok (.aload_n 0, 1) := by decide +kernel
theorem dX6_decode_12 : decode cX6_decode 12 = .ok (.iload_n 1, 1) := by decide +kernel
theorem dX6_decode_13 : decode cX6_decode 13 = .ok (.iload_n 2, 1) := by decide +kernel
theorem dX6_decode_14 : decode cX6_decode 14 = .ok (.invokevirtual 92, 3) := by decide +kernel
theorem dX6_decode_17 : decode cX6_decode 17 = .ok (.goto 5, 3) := by decide +kernel
theorem dX6_decode_20 : decode cX6_decode 20 = .ok (.bipush (-3), 2) := by decide +kernel
theorem dX6_decode_22 : decode cX6_decode 22 = .ok (.ireturn, 1) := by decide +kernel
theorem dX6_draft_0 : decode cX6_draft 0 = .ok (.iload_n 1, 1) := by decide +kernel
theorem dX6_draft_1 : decode cX6_draft 1 = .ok (.iconst 0, 1) := by decide +kernel
theorem dX6_draft_2 : decode cX6_draft 2 = .ok (.sipush 255, 3) := by decide +kernel
theorem dX6_draft_5 : decode cX6_draft 5 = .ok (.invokestatic 81, 3) := by decide +kernel
theorem dX6_draft_8 : decode cX6_draft 8 = .ok (.ifCond .ne 6, 3) := by decide +kernel
theorem dX6_draft_11 : decode cX6_draft 11 = .ok (.bipush (-3), 2) := by decide +kernel
theorem dX6_draft_13 : decode cX6_draft 13 = .ok (.ireturn, 1) := by decide +kernel
theorem dX6_draft_14 : decode cX6_draft 14 = .ok (.aload_n 0, 1) := by decide +kernel
theorem dX6_draft_15 : decode cX6_draft 15 = .ok (.getfield 95, 3) := by decide +kernel
theorem dX6_draft_18 : decode cX6_draft 18 = .ok (.bipush 12, 2) := by decide +kernel
theorem dX6_draft_20 : decode cX6_draft 20 = .ok (.if_icmp .ne 6, 3) := by decide +kernel
theorem dX6_draft_23 : decode cX6_draft 23 = .ok (.bipush (-5), 2) := by decide +kernel
theorem dX6_draft_25 : decode cX6_draft 25 = .ok (.ireturn, 1) := by decide +kernel
theorem dX6_draft_26 : decode cX6_draft 26 = .ok (.aload_n 0, 1) := by decide +kernel
theorem dX6_draft_27 : decode cX6_draft 27 = .ok (.getfield 19, 3) := by decide +kernel
theorem dX6_draft_30 : decode cX6_draft 30 = .ok (.aload_n 0, 1) := by decide +kernel
theorem dX6_draft_31 : decode cX6_draft 31 = .ok (.getfield 95, 3) := by decide +kernel
theorem dX6_draft_34 : decode cX6_draft 34 = .ok (.iload_n 1, 1) := by decide +kernel
theorem dX6_draft_35 : decode cX6_draft 35 = .ok (.iastore, 1) := by decide +kernel
theorem dX6_draft_36 : decode cX6_draft 36 = .ok (.aload_n 0, 1) := by decide +kernel
theorem dX6_draft_37 : decode cX6_draft 37 = .ok (.dup, 1) := by decide +kernel
theorem dX6_draft_38 : decode cX6_draft 38 = .ok (.getfield 95, 3) := by decide +kernel
theorem dX6_draft_41 : decode cX6_draft 41 = .ok (.iconst 1, 1) := by decide +kernel
theorem dX6_draft_42 : decode cX6_draft 42 = .ok (.iadd, 1) := by decide +kernel
theorem dX6_draft_43 : decode cX6_draft 43 = .ok (.putfield 95, 3) := by decide +kernel
theorem dX6_draft_46 : decode cX6_draft 46 = .ok (.aload_n 0, 1) := by decide +kernel
theorem dX6_draft_47 : decode cX6_draft 47 = .ok (.getfield 95, 3) := by decide +kernel
theorem dX6_draft_50 : decode cX6_draft 50 = .ok (.ireturn, 1) := by decide +kernel
theorem dX6_checkByte_0 : decode cX6_checkByte 0 = .ok (.iload_n 0, 1) := by decide +kernel
theorem dX6_checkByte_1 : decode cX6_checkByte 1 = .ok (.istore_n 2, 1) := by decide +kernel
theorem dX6_checkByte_2 : decode cX6_checkByte 2 = .ok (.bipush 7, 2) := by decide +kernel
theorem dX6_checkByte_4 : decode cX6_checkByte 4 = .ok (.istore_n 3, 1) := by decide +kernel
theorem dX6_checkByte_5 : decode cX6_checkByte 5 = .ok (.iload_n 3, 1) := by decide +kernel
theorem dX6_checkByte_6 : decode cX6_checkByte 6 = .ok (.ifCond .lt 40, 3) := by decide +kernel
theorem dX6_checkByte_9 : decode cX6_checkByte 9 = .ok (.iload_n 2, 1) := by decide +kernel
theorem dX6_checkByte_10 : decode cX6_checkByte 10 = .ok (.bipush 31, 2) := by decide +kernel
theorem dX6_checkByte_12 : decode cX6_checkByte 12 = .ok (.iushr, 1) := by decide +kernel
theorem dX6_checkByte_13 : decode cX6_checkByte 13 = .ok (.iload_n 1, 1) := by decide +kernel
theorem dX6_checkByte_14 : decode cX6_checkByte 14 = .ok (.iload_n 3, 1) := by decide +kernel
theorem dX6_checkByte_15 : decode cX6_checkByte 15 = .ok (.ishr, 1) := by decide +kernel
theorem dX6_checkByte_16 : decode cX6_checkByte 16 = .ok (.iconst 1, 1) := by decide +kernel
theorem dX6_checkByte_17 : decode cX6_checkByte 17 = .ok (.iand, 1) := by decide +kernel
theorem dX6_checkByte_18 : decode cX6_checkByte 18 = .ok (.ixor, 1) := by decide +kernel
theorem dX6_checkByte_19 : decode cX6_checkByte 19 = .ok (.istore 4, 2) := by decide +kernel
theorem dX6_checkByte_21 : decode cX6_checkByte 21 = .ok (.iload_n 2, 1) := by decide +kernel
theorem dX6_checkByte_22 : decode cX6_checkByte 22 = .ok (.iconst 1, 1) := by decide +kernel
theorem dX6_checkByte_23 : decode cX6_checkByte 23 = .ok (.ishl, 1) := by decide +kernel
theorem dX6_checkByte_24 : decode cX6_checkByte 24 = .ok (.istore_n 2, 1) := by decide +kernel
theorem dX6_checkByte_25 : decode cX6_checkByte 25 = .ok (.iload 4, 2) := by decide +kernel
theorem dX6_checkByte_27 : decode cX6_checkByte 27 = .ok (.iconst 1, 1) := by decide +kernel
theorem dX6_checkByte_28 : decode cX6_checkByte 28 = .ok (.if_icmp .ne 10, 3) := by decide +kernel
theorem dX6_checkByte_31 : decode cX6_checkByte 31 = .ok (.iload_n 2, 1) := by decide +kernel
theorem dX6_checkByte_32 : decode cX6_checkByte 32 = .ok (.ldc 99, 2) := by decide +kernel
theorem dX6_checkByte_34 : decode cX6_checkByte 34 = .ok (.ixor, 1) := by decide +kernel
theorem dX6_checkByte_35 : decode cX6_checkByte 35 = .ok (.goto 4, 3) := by decide +kernel
theorem dX6_checkByte_38 : decode cX6_checkByte 38 = .ok (.iload_n 2, 1) := by decide +kernel
theorem dX6_checkByte_39 : decode cX6_checkByte 39 = .ok (.istore_n 2, 1) := by decide +kernel
theorem dX6_checkByte_40 : decode cX6_checkByte 40 = .ok (.iinc 3 (-1), 3) := by decide +kernel
theorem dX6_checkByte_43 : decode cX6_checkByte 43 = .ok (.goto (-38), 3) := by decide +kernel
theorem dX6_checkByte_46 : decode cX6_checkByte 46 = .ok (.iload_n 2, 1) := by decide +kernel
theorem dX6_checkByte_47 : decode cX6_checkByte 47 = .ok (.ireturn, 1) := by decide +kernel
theorem dX6_checkOf_0 : decode cX6_checkOf 0 = .ok (.ldc 100, 2) := by decide +kernel
theorem dX6_checkOf_2 : decode cX6_checkOf 2 = .ok (.istore_n 3, 1) := by decide +kernel
theorem dX6_checkOf_3 : decode cX6_checkOf 3 = .ok (.iconst 0, 1) := by decide +kernel
theorem dX6_checkOf_4 : decode cX6_checkOf 4 = .ok (.istore 4, 2) := by decide +kernel
theorem dX6_checkOf_6 : decode cX6_checkOf 6 = .ok (.iload 4, 2) := by decide +kernel
theorem dX6_checkOf_8 : decode cX6_checkOf 8 = .ok (.iload_n 2, 1) := by decide +kernel
theorem dX6_checkOf_9 : decode cX6_checkOf 9 = .ok (.if_icmp .ge 20, 3) := by decide +kernel
theorem dX6_checkOf_12 : decode cX6_checkOf 12 = .ok (.iload_n 3, 1) := by decide +kernel
theorem dX6_checkOf_13 : decode cX6_checkOf 13 = .ok (.aload_n 0, 1) := by decide +kernel
theorem dX6_checkOf_14 : decode cX6_checkOf 14 = .ok (.iload_n 1, 1) := by decide +kernel
theorem dX6_checkOf_15 : decode cX6_checkOf 15 = .ok (.iload 4, 2) := by decide +kernel
theorem dX6_checkOf_17 : decode cX6_checkOf 17 = .ok (.iadd, 1) := by decide +kernel
theorem dX6_checkOf_18 : decode cX6_checkOf 18 = .ok (.iaload, 1) := by decide +kernel
theorem dX6_checkOf_19 : decode cX6_checkOf 19 = .ok (.invokestatic 101, 3) := by decide +kernel
theorem dX6_checkOf_22 : decode cX6_checkOf 22 = .ok (.istore_n 3, 1) := by decide +kernel
theorem dX6_checkOf_23 : decode cX6_checkOf 23 = .ok (.iinc 4 1, 3) := by decide +kernel
theorem dX6_checkOf_26 : decode cX6_checkOf 26 = .ok (.goto (-20), 3) := by decide +kernel
theorem dX6_checkOf_29 : decode cX6_checkOf 29 = .ok (.iload_n 3, 1) := by decide +kernel
theorem dX6_checkOf_30 : decode cX6_checkOf 30 = .ok (.ireturn, 1) := by decide +kernel
theorem dX6_check_0 : decode cX6_check 0 = .ok (.aload_n 0, 1) := by decide +kernel
theorem dX6_check_1 : decode cX6_check 1 = .ok (.getfield 19, 3) := by decide +kernel
theorem dX6_check_4 : decode cX6_check 4 = .ok (.iconst 0, 1) := by decide +kernel
theorem dX6_check_5 : decode cX6_check 5 = .ok (.aload_n 0, 1) := by decide +kernel
theorem dX6_check_6 : decode cX6_check 6 = .ok (.getfield 95, 3) := by decide +kernel
theorem dX6_check_9 : decode cX6_check 9 = .ok (.invokestatic 105, 3) := by decide +kernel
theorem dX6_check_12 : decode cX6_check 12 = .ok (.ireturn, 1) := by decide +kernel
theorem dX6_nextScramble_0 : decode cX6_nextScramble 0 = .ok (.iconst 0, 1) := by decide +kernel
theorem dX6_nextScramble_1 : decode cX6_nextScramble 1 = .ok (.istore_n 1, 1) := by decide +kernel
theorem dX6_nextScramble_2 : decode cX6_nextScramble 2 = .ok (.iconst 0, 1) := by decide +kernel
theorem dX6_nextScramble_3 : decode cX6_nextScramble 3 = .ok (.istore_n 2, 1) := by decide +kernel
theorem dX6_nextScramble_4 : decode cX6_nextScramble 4 = .ok (.iload_n 2, 1) := by decide +kernel
theorem dX6_nextScramble_5 : decode cX6_nextScramble 5 = .ok (.bipush 8, 2) := by decide +kernel
theorem dX6_nextScramble_7 : decode cX6_nextScramble 7 = .ok (.if_icmp .ge 59, 3) := by decide +kernel
theorem dX6_nextScramble_10 : decode cX6_nextScramble 10 = .ok (.aload_n 0, 1) := by decide +kernel
theorem dX6_nextScramble_11 : decode cX6_nextScramble 11 = .ok (.getfield 109, 3) := by decide +kernel
theorem dX6_nextScramble_14 : decode cX6_nextScramble 14 = .ok (.bipush 15, 2) := by decide +kernel
theorem dX6_nextScramble_16 : decode cX6_nextScramble 16 = .ok (.ishr, 1) := by decide +kernel
theorem dX6_nextScramble_17 : decode cX6_nextScramble 17 = .ok (.istore_n 3, 1) := by decide +kernel
theorem dX6_nextScramble_18 : decode cX6_nextScramble 18 = .ok (.iconst 2, 1) := by decide +kernel
theorem dX6_nextScramble_19 : decode cX6_nextScramble 19 = .ok (.iload_n 1, 1) := by decide +kernel
theorem dX6_nextScramble_20 : decode cX6_nextScramble 20 = .ok (.imul, 1) := by decide +kernel
theorem dX6_nextScramble_21 : decode cX6_nextScramble 21 = .ok (.iload_n 3, 1) := by decide +kernel
theorem dX6_nextScramble_22 : decode cX6_nextScramble 22 = .ok (.iadd, 1) := by decide +kernel
theorem dX6_nextScramble_23 : decode cX6_nextScramble 23 = .ok (.istore_n 1, 1) := by decide +kernel
theorem dX6_nextScramble_24 : decode cX6_nextScramble 24 = .ok (.aload_n 0, 1) := by decide +kernel
theorem dX6_nextScramble_25 : decode cX6_nextScramble 25 = .ok (.aload_n 0, 1) := by decide +kernel
theorem dX6_nextScramble_26 : decode cX6_nextScramble 26 = .ok (.getfield 109, 3) := by decide +kernel
theorem dX6_nextScramble_29 : decode cX6_nextScramble 29 = .ok (.iconst 1, 1) := by decide +kernel
theorem dX6_nextScramble_30 : decode cX6_nextScramble 30 = .ok (.ishl, 1) := by decide +kernel
theorem dX6_nextScramble_31 : decode cX6_nextScramble 31 = .ok (.ldc 112, 2) := by decide +kernel
theorem dX6_nextScramble_33 : decode cX6_nextScramble 33 = .ok (.iand, 1) := by decide +kernel
theorem dX6_nextScramble_34 : decode cX6_nextScramble 34 = .ok (.putfield 109, 3) := by decide +kernel
theorem dX6_nextScramble_37 : decode cX6_nextScramble 37 = .ok (.aload_n 0, 1) := by decide +kernel
theorem dX6_nextScramble_38 : decode cX6_nextScramble 38 = .ok (.iload_n 3, 1) := by decide +kernel
theorem dX6_nextScramble_39 : decode cX6_nextScramble 39 = .ok (.iconst 1, 1) := by decide +kernel
theorem dX6_nextScramble_40 : decode cX6_nextScramble 40 = .ok (.if_icmp .ne 13, 3) := by decide +kernel
theorem dX6_nextScramble_43 : decode cX6_nextScramble 43 = .ok (.aload_n 0, 1) := by decide +kernel
theorem dX6_nextScramble_44 : decode cX6_nextScramble 44 = .ok (.getfield 109, 3) := by decide +kernel
theorem dX6_nextScramble_47 : decode cX6_nextScramble 47 = .ok (.ldc 113, 2) := by decide +kernel
theorem dX6_nextScramble_49 : decode cX6_nextScramble 49 = .ok (.ixor, 1) := by decide +kernel
theorem dX6_nextScramble_50 : decode cX6_nextScramble 50 = .ok (.goto 7, 3) := by decide +kernel
theorem dX6_nextScramble_53 : decode cX6_nextScramble 53 = .ok (.aload_n 0, 1) := by decide +kernel
theorem dX6_nextScramble_54 : decode cX6_nextScramble 54 = .ok (.getfield 109, 3) := by decide +kernel
theorem dX6_nextScramble_57 : decode cX6_nextScramble 57 = .ok (.putfield 109, 3) := by decide +kernel
theorem dX6_nextScramble_60 : decode cX6_nextScramble 60 = .ok (.iinc 2 1, 3) := by decide +kernel
theorem dX6_nextScramble_63 : decode cX6_nextScramble 63 = .ok (.goto (-59), 3) := by decide +kernel
theorem dX6_nextScramble_66 : decode cX6_nextScramble 66 = .ok (.iload_n 1, 1) := by decide +kernel
theorem dX6_nextScramble_67 : decode cX6_nextScramble 67 = .ok (.ireturn, 1) := by decide +kernel
theorem dX6_wireWord_0 : decode cX6_wireWord 0 = .ok (.aload_n 0, 1) := by decide +kernel
theorem dX6_wireWord_1 : decode cX6_wireWord 1 = .ok (.iload_n 1, 1) := by decide +kernel
theorem dX6_wireWord_2 : decode cX6_wireWord 2 = .ok (.aload_n 0, 1) := by decide +kernel
theorem dX6_wireWord_3 : decode cX6_wireWord 3 = .ok (.getfield 114, 3) := by decide +kernel
theorem dX6_wireWord_6 : decode cX6_wireWord 6 = .ok (.invokevirtual 85, 3) := by decide +kernel
theorem dX6_wireWord_9 : decode cX6_wireWord 9 = .ok (.istore_n 2, 1) := by decide +kernel
theorem dX6_wireWord_10 : decode cX6_wireWord 10 = .ok (.iload_n 1, 1) := by decide +kernel
theorem dX6_wireWord_11 : decode cX6_wireWord 11 = .ok (.invokestatic 77, 3) := by decide +kernel
theorem dX6_wireWord_14 : decode cX6_wireWord 14 = .ok (.ifCond .ne 19, 3) := by decide +kernel
theorem dX6_wireWord_17 : decode cX6_wireWord 17 = .ok (.aload_n 0, 1) := by decide +kernel
theorem dX6_wireWord_18 : decode cX6_wireWord 18 = .ok (.aload_n 0, 1) := by decide +kernel
theorem dX6_wireWord_19 : decode cX6_wireWord 19 = .ok (.getfield 114, 3) := by decide +kernel
theorem dX6_wireWord_22 : decode cX6_wireWord 22 = .ok (.ifCond .ne 7, 3) := by decide +kernel
theorem dX6_wireWord_25 : decode cX6_wireWord 25 = .ok (.iconst 1, 1) := by decide +kernel
theorem dX6_wireWord_26 : decode cX6_wireWord 26 = .ok (.goto 4, 3) := by decide +kernel
theorem dX6_wireWord_29 : decode cX6_wireWord 29 = .ok (.iconst 0, 1) := by decide +kernel
theorem dX6_wireWord_30 : decode cX6_wireWord 30 = .ok (.putfield 114, 3) := by decide +kernel
theorem dX6_wireWord_33 : decode cX6_wireWord 33 = .ok (.bipush 9, 2) := by decide +kernel
theorem dX6_wireWord_35 : decode cX6_wireWord 35 = .ok (.istore_n 3, 1) := by decide +kernel
theorem dX6_wireWord_36 : decode cX6_wireWord 36 = .ok (.iload_n 3, 1) := by decide +kernel
theorem dX6_wireWord_37 : decode cX6_wireWord 37 = .ok (.ifCond .lt 33, 3) := by decide +kernel
theorem dX6_wireWord_40 : decode cX6_wireWord 40 = .ok (.aload_n 0, 1) := by decide +kernel
theorem dX6_wireWord_41 : decode cX6_wireWord 41 = .ok (.getfield 31, 3) := by decide +kernel
theorem dX6_wireWord_44 : decode cX6_wireWord 44 = .ok (.aload_n 0, 1) := by decide +kernel
theorem dX6_wireWord_45 : decode cX6_wireWord 45 = .ok (.getfield 118, 3) := by decide +kernel
theorem dX6_wireWord_48 : decode cX6_wireWord 48 = .ok (.iload_n 2, 1) := by decide +kernel
theorem dX6_wireWord_49 : decode cX6_wireWord 49 = .ok (.iload_n 3, 1) := by decide +kernel
theorem dX6_wireWord_50 : decode cX6_wireWord 50 = .ok (.ishr, 1) := by decide +kernel
theorem dX6_wireWord_51 : decode cX6_wireWord 51 = .ok (.iconst 1, 1) := by decide +kernel
theorem dX6_wireWord_52 : decode cX6_wireWord 52 = .ok (.iand, 1) := by decide +kernel
theorem dX6_wireWord_53 : decode cX6_wireWord 53 = .ok (.iastore, 1) := by decide +kernel
theorem dX6_wireWord_54 : decode cX6_wireWord 54 = .ok (.aload_n 0, 1) := by decide +kernel
theorem dX6_wireWord_55 : decode cX6_wireWord 55 = .ok (.dup, 1) := by decide +kernel
theorem dX6_wireWord_56 : decode cX6_wireWord 56 = .ok (.getfield 118, 3) := by decide +kernel
theorem dX6_wireWord_59 : decode cX6_wireWord 59 = .ok (.iconst 1, 1) := by decide +kernel
theorem dX6_wireWord_60 : decode cX6_wireWord 60 = .ok (.iadd, 1) := by decide +kernel
theorem dX6_wireWord_61 : decode cX6_wireWord 61 = .ok (.putfield 118, 3) := by decide +kernel
theorem dX6_wireWord_64 : decode cX6_wireWord 64 = .ok (.iinc 3 (-1), 3) := by decide +kernel
theorem dX6_wireWord_67 : decode cX6_wireWord 67 = .ok (.goto (-31), 3) := by decide +kernel
theorem dX6_wireWord_70 : decode cX6_wireWord 70 = .ok (.return_, 1) := by decide +kernel
theorem dX6_layWire_0 : decode cX6_layWire 0 = .ok (.aload_n 0, 1) := by decide +kernel
theorem dX6_layWire_1 : decode cX6_layWire 1 = .ok (.iconst 0, 1) := by decide +kernel
theorem dX6_layWire_2 : decode cX6_layWire 2 = .ok (.putfield 118, 3) := by decide +kernel
theorem dX6_layWire_5 : decode cX6_layWire 5 = .ok (.aload_n 0, 1) := by decide +kernel
theorem dX6_layWire_6 : decode cX6_layWire 6 = .ok (.iconst 0, 1) := by decide +kernel
theorem dX6_layWire_7 : decode cX6_layWire 7 = .ok (.putfield 114, 3) := by decide +kernel
theorem dX6_layWire_10 : decode cX6_layWire 10 = .ok (.aload_n 0, 1) := by decide +kernel
theorem dX6_layWire_11 : decode cX6_layWire 11 = .ok (.ldc 112, 2) := by decide +kernel
theorem dX6_layWire_13 : decode cX6_layWire 13 = .ok (.putfield 109, 3) := by decide +kernel
theorem dX6_layWire_16 : decode cX6_layWire 16 = .ok (.aload_n 0, 1) := by decide +kernel
theorem dX6_layWire_17 : decode cX6_layWire 17 = .ok (.sipush 256, 3) := by decide +kernel
theorem dX6_layWire_20 : decode cX6_layWire 20 = .ok (.invokevirtual 121, 3) := by decide +kernel
theorem dX6_layWire_23 : decode cX6_layWire 23 = .ok (.aload_n 0, 1) := by decide +kernel
theorem dX6_layWire_24 : decode cX6_layWire 24 = .ok (.getfield 34, 3) := by decide +kernel
theorem dX6_layWire_27 : decode cX6_layWire 27 = .ok (.iconst 0, 1) := by decide +kernel
theorem dX6_layWire_28 : decode cX6_layWire 28 = .ok (.aload_n 0, 1) := by decide +kernel
theorem dX6_layWire_29 : decode cX6_layWire 29 = .ok (.getfield 125, 3) := by decide +kernel
theorem dX6_layWire_32 : decode cX6_layWire 32 = .ok (.invokestatic 105, 3) := by decide +kernel
theorem dX6_layWire_35 : decode cX6_layWire 35 = .ok (.istore_n 1, 1) := by decide +kernel
theorem dX6_layWire_36 : decode cX6_layWire 36 = .ok (.iconst 0, 1) := by decide +kernel
theorem dX6_layWire_37 : decode cX6_layWire 37 = .ok (.istore_n 2, 1) := by decide +kernel
theorem dX6_layWire_38 : decode cX6_layWire 38 = .ok (.iload_n 2, 1) := by decide +kernel
theorem dX6_layWire_39 : decode cX6_layWire 39 = .ok (.aload_n 0, 1) := by decide +kernel
theorem dX6_layWire_40 : decode cX6_layWire 40 = .ok (.getfield 125, 3) := by decide +kernel
theorem dX6_layWire_43 : decode cX6_layWire 43 = .ok (.iconst 4, 1) := by decide +kernel
theorem dX6_layWire_44 : decode cX6_layWire 44 = .ok (.iadd, 1) := by decide +kernel
theorem dX6_layWire_45 : decode cX6_layWire 45 = .ok (.if_icmp .ge 54, 3) := by decide +kernel
theorem dX6_layWire_48 : decode cX6_layWire 48 = .ok (.iload_n 2, 1) := by decide +kernel
theorem dX6_layWire_49 : decode cX6_layWire 49 = .ok (.aload_n 0, 1) := by decide +kernel
theorem dX6_layWire_50 : decode cX6_layWire 50 = .ok (.getfield 125, 3) := by decide +kernel
theorem dX6_layWire_53 : decode cX6_layWire 53 = .ok (.if_icmp .ge 12, 3) := by decide +kernel
theorem dX6_layWire_56 : decode cX6_layWire 56 = .ok (.aload_n 0, 1) := by decide +kernel
theorem dX6_layWire_57 : decode cX6_layWire 57 = .ok (.getfield 34, 3) := by decide +kernel
theorem dX6_layWire_60 : decode cX6_layWire 60 = .ok (.iload_n 2, 1) := by decide +kernel
theorem dX6_layWire_61 : decode cX6_layWire 61 = .ok (.iaload, 1) := by decide +kernel
theorem dX6_layWire_62 : decode cX6_layWire 62 = .ok (.goto 20, 3) := by decide +kernel
theorem dX6_layWire_65 : decode cX6_layWire 65 = .ok (.iload_n 1, 1) := by decide +kernel
theorem dX6_layWire_66 : decode cX6_layWire 66 = .ok (.bipush 8, 2) := by decide +kernel
theorem dX6_layWire_68 : decode cX6_layWire 68 = .ok (.aload_n 0, 1) := by decide +kernel
theorem dX6_layWire_69 : decode cX6_layWire 69 = .ok (.getfield 125, 3) := by decide +kernel
theorem dX6_layWire_72 : decode cX6_layWire 72 = .ok (.iconst 3, 1) := by decide +kernel
theorem dX6_layWire_73 : decode cX6_layWire 73 = .ok (.iadd, 1) := by decide +kernel
theorem dX6_layWire_74 : decode cX6_layWire 74 = .ok (.iload_n 2, 1) := by decide +kernel
theorem dX6_layWire_75 : decode cX6_layWire 75 = .ok (.isub, 1) := by decide +kernel
theorem dX6_layWire_76 : decode cX6_layWire 76 = .ok (.imul, 1) := by decide +kernel
theorem dX6_layWire_77 : decode cX6_layWire 77 = .ok (.iushr, 1) := by decide +kernel
theorem dX6_layWire_78 : decode cX6_layWire 78 = .ok (.sipush 255, 3) := by decide +kernel
theorem dX6_layWire_81 : decode cX6_layWire 81 = .ok (.iand, 1) := by decide +kernel
theorem dX6_layWire_82 : decode cX6_layWire 82 = .ok (.istore_n 3, 1) := by decide +kernel
theorem dX6_layWire_83 : decode cX6_layWire 83 = .ok (.aload_n 0, 1) := by decide +kernel
theorem dX6_layWire_84 : decode cX6_layWire 84 = .ok (.iload_n 3, 1) := by decide +kernel
theorem dX6_layWire_85 : decode cX6_layWire 85 = .ok (.aload_n 0, 1) := by decide +kernel
theorem dX6_layWire_86 : decode cX6_layWire 86 = .ok (.invokevirtual 128, 3) := by decide +kernel
theorem dX6_layWire_89 : decode cX6_layWire 89 = .ok (.ixor, 1) := by decide +kernel
theorem dX6_layWire_90 : decode cX6_layWire 90 = .ok (.invokevirtual 121, 3) := by decide +kernel
theorem dX6_layWire_93 : decode cX6_layWire 93 = .ok (.iinc 2 1, 3) := by decide +kernel
theorem dX6_layWire_96 : decode cX6_layWire 96 = .ok (.goto (-58), 3) := by decide +kernel
theorem dX6_layWire_99 : decode cX6_layWire 99 = .ok (.aload_n 0, 1) := by decide +kernel
theorem dX6_layWire_100 : decode cX6_layWire 100 = .ok (.sipush 257, 3) := by decide +kernel
theorem dX6_layWire_103 : decode cX6_layWire 103 = .ok (.invokevirtual 121, 3) := by decide +kernel
theorem dX6_layWire_106 : decode cX6_layWire 106 = .ok (.iconst 0, 1) := by decide +kernel
theorem dX6_layWire_107 : decode cX6_layWire 107 = .ok (.istore_n 2, 1) := by decide +kernel
theorem dX6_layWire_108 : decode cX6_layWire 108 = .ok (.iload_n 2, 1) := by decide +kernel
theorem dX6_layWire_109 : decode cX6_layWire 109 = .ok (.aload_n 0, 1) := by decide +kernel
theorem dX6_layWire_110 : decode cX6_layWire 110 = .ok (.getfield 132, 3) := by decide +kernel
theorem dX6_layWire_113 : decode cX6_layWire 113 = .ok (.if_icmp .ge 48, 3) := by decide +kernel
theorem dX6_layWire_116 : decode cX6_layWire 116 = .ok (.aload_n 0, 1) := by decide +kernel
theorem dX6_layWire_117 : decode cX6_layWire 117 = .ok (.getfield 22, 3) := by decide +kernel
theorem dX6_layWire_120 : decode cX6_layWire 120 = .ok (.iload_n 2, 1) := by decide +kernel
theorem dX6_layWire_121 : decode cX6_layWire 121 = .ok (.iaload, 1) := by decide +kernel
theorem dX6_layWire_122 : decode cX6_layWire 122 = .ok (.aload_n 0, 1) := by decide +kernel
theorem dX6_layWire_123 : decode cX6_layWire 123 = .ok (.getfield 135, 3) := by decide +kernel
theorem dX6_layWire_126 : decode cX6_layWire 126 = .ok (.if_icmp .ne 29, 3) := by decide +kernel
theorem dX6_layWire_129 : decode cX6_layWire 129 = .ok (.aload_n 0, 1) := by decide +kernel
theorem dX6_layWire_130 : decode cX6_layWire 130 = .ok (.getfield 25, 3) := by decide +kernel
theorem dX6_layWire_133 : decode cX6_layWire 133 = .ok (.iload_n 2, 1) := by decide +kernel
theorem dX6_layWire_134 : decode cX6_layWire 134 = .ok (.iaload, 1) := by decide +kernel
theorem dX6_layWire_135 : decode cX6_layWire 135 = .ok (.aload_n 0, 1) := by decide +kernel
theorem dX6_layWire_136 : decode cX6_layWire 136 = .ok (.getfield 118, 3) := by decide +kernel
theorem dX6_layWire_139 : decode cX6_layWire 139 = .ok (.irem, 1) := by decide +kernel
theorem dX6_layWire_140 : decode cX6_layWire 140 = .ok (.istore_n 3, 1) := by decide +kernel
theorem dX6_layWire_141 : decode cX6_layWire 141 = .ok (.aload_n 0, 1) := by decide +kernel
theorem dX6_layWire_142 : decode cX6_layWire 142 = .ok (.getfield 31, 3) := by decide +kernel
theorem dX6_layWire_145 : decode cX6_layWire 145 = .ok (.iload_n 3, 1) := by decide +kernel
theorem dX6_layWire_146 : decode cX6_layWire 146 = .ok (.iconst 1, 1) := by decide +kernel
theorem dX6_layWire_147 : decode cX6_layWire 147 = .ok (.aload_n 0, 1) := by decide +kernel
theorem dX6_layWire_148 : decode cX6_layWire 148 = .ok (.getfield 31, 3) := by decide +kernel
theorem dX6_layWire_151 : decode cX6_layWire 151 = .ok (.iload_n 3, 1) := by decide +kernel
theorem dX6_layWire_152 : decode cX6_layWire 152 = .ok (.iaload, 1) := by decide +kernel
theorem dX6_layWire_153 : decode cX6_layWire 153 = .ok (.isub, 1) := by decide +kernel
theorem dX6_layWire_154 : decode cX6_layWire 154 = .ok (.iastore, 1) := by decide +kernel
theorem dX6_layWire_155 : decode cX6_layWire 155 = .ok (.iinc 2 1, 3) := by decide +kernel
theorem dX6_layWire_158 : decode cX6_layWire 158 = .ok (.goto (-50), 3) := by decide +kernel
theorem dX6_layWire_161 : decode cX6_layWire 161 = .ok (.return_, 1) := by decide +kernel
theorem dX6_findWord_0 : decode cX6_findWord 0 = .ok (.iconst 0, 1) := by decide +kernel
theorem dX6_findWord_1 : decode cX6_findWord 1 = .ok (.istore_n 3, 1) := by decide +kernel
theorem dX6_findWord_2 : decode cX6_findWord 2 = .ok (.iconst 0, 1) := by decide +kernel
theorem dX6_findWord_3 : decode cX6_findWord 3 = .ok (.istore 4, 2) := by decide +kernel
theorem dX6_findWord_5 : decode cX6_findWord 5 = .ok (.iload 4, 2) := by decide +kernel
theorem dX6_findWord_7 : decode cX6_findWord 7 = .ok (.bipush 10, 2) := by decide +kernel
theorem dX6_findWord_9 : decode cX6_findWord 9 = .ok (.if_icmp .ge 26, 3) := by decide +kernel
theorem dX6_findWord_12 : decode cX6_findWord 12 = .ok (.iconst 2, 1) := by decide +kernel
theorem dX6_findWord_13 : decode cX6_findWord 13 = .ok (.iload_n 3, 1) := by decide +kernel
theorem dX6_findWord_14 : decode cX6_findWord 14 = .ok (.imul, 1) := by decide +kernel
theorem dX6_findWord_15 : decode cX6_findWord 15 = .ok (.aload_n 0, 1) := by decide +kernel
theorem dX6_findWord_16 : decode cX6_findWord 16 = .ok (.getfield 31, 3) := by decide +kernel
theorem dX6_findWord_19 : decode cX6_findWord 19 = .ok (.bipush 10, 2) := by decide +kernel
theorem dX6_findWord_21 : decode cX6_findWord 21 = .ok (.iload_n 1, 1) := by decide +kernel
theorem dX6_findWord_22 : decode cX6_findWord 22 = .ok (.imul, 1) := by decide +kernel
theorem dX6_findWord_23 : decode cX6_findWord 23 = .ok (.iload 4, 2) := by decide +kernel
theorem dX6_findWord_25 : decode cX6_findWord 25 = .ok (.iadd, 1) := by decide +kernel
theorem dX6_findWord_26 : decode cX6_findWord 26 = .ok (.iaload, 1) := by decide +kernel
theorem dX6_findWord_27 : decode cX6_findWord 27 = .ok (.iadd, 1) := by decide +kernel
theorem dX6_findWord_28 : decode cX6_findWord 28 = .ok (.istore_n 3, 1) := by decide +kernel
theorem dX6_findWord_29 : decode cX6_findWord 29 = .ok (.iinc 4 1, 3) := by decide +kernel
theorem dX6_findWord_32 : decode cX6_findWord 32 = .ok (.goto (-27), 3) := by decide +kernel
theorem dX6_findWord_35 : decode cX6_findWord 35 = .ok (.aload_n 0, 1) := by decide +kernel
theorem dX6_findWord_36 : decode cX6_findWord 36 = .ok (.getfield 13, 3) := by decide +kernel
theorem dX6_findWord_39 : decode cX6_findWord 39 = .ok (.iload_n 3, 1) := by decide +kernel
theorem dX6_findWord_40 : decode cX6_findWord 40 = .ok (.iaload, 1) := by decide +kernel
theorem dX6_findWord_41 : decode cX6_findWord 41 = .ok (.iconst (-1), 1) := by decide +kernel
theorem dX6_findWord_42 : decode cX6_findWord 42 = .ok (.if_icmp .eq 7, 3) := by decide +kernel
theorem dX6_findWord_45 : decode cX6_findWord 45 = .ok (.iconst 1, 1) := by decide +kernel
theorem dX6_findWord_46 : decode cX6_findWord 46 = .ok (.goto 4, 3) := by decide +kernel
theorem dX6_findWord_49 : decode cX6_findWord 49 = .ok (.iconst 0, 1) := by decide +kernel
theorem dX6_findWord_50 : decode cX6_findWord 50 = .ok (.istore 4, 2) := by decide +kernel
theorem dX6_findWord_52 : decode cX6_findWord 52 = .ok (.iload 4, 2) := by decide +kernel
theorem dX6_findWord_54 : decode cX6_findWord 54 = .ok (.ifCond .ne 25, 3) := by decide +kernel
theorem dX6_findWord_57 : decode cX6_findWord 57 = .ok (.aload_n 0, 1) := by decide +kernel
theorem dX6_findWord_58 : decode cX6_findWord 58 = .ok (.iload_n 3, 1) := by decide +kernel
theorem dX6_findWord_59 : decode cX6_findWord 59 = .ok (.iconst 0, 1) := by decide +kernel
theorem dX6_findWord_60 : decode cX6_findWord 60 = .ok (.invokevirtual 89, 3) := by decide +kernel
theorem dX6_findWord_63 : decode cX6_findWord 63 = .ok (.iconst (-1), 1) := by decide +kernel
theorem dX6_findWord_64 : decode cX6_findWord 64 = .ok (.if_icmp .ne 15, 3) := by decide +kernel
theorem dX6_findWord_67 : decode cX6_findWord 67 = .ok (.aload_n 0, 1) := by decide +kernel
theorem dX6_findWord_68 : decode cX6_findWord 68 = .ok (.iload_n 3, 1) := by decide +kernel
theorem dX6_findWord_69 : decode cX6_findWord 69 = .ok (.iconst 1, 1) := by decide +kernel
theorem dX6_findWord_70 : decode cX6_findWord 70 = .ok (.invokevirtual 89, 3) := by decide +kernel
theorem dX6_findWord_73 : decode cX6_findWord 73 = .ok (.iconst (-1), 1) := by decide +kernel
theorem dX6_findWord_74 : decode cX6_findWord 74 = .ok (.if_icmp .ne 5, 3) := by decide +kernel
theorem dX6_findWord_77 : decode cX6_findWord 77 = .ok (.iconst 1, 1) := by decide +kernel
theorem dX6_findWord_78 : decode cX6_findWord 78 = .ok (.ireturn, 1) := by decide +kernel
theorem dX6_findWord_79 : decode cX6_findWord 79 = .ok (.iload 4, 2) := by decide +kernel
theorem dX6_findWord_81 : decode cX6_findWord 81 = .ok (.ifCond .ne 18, 3) := by decide +kernel
theorem dX6_findWord_84 : decode cX6_findWord 84 = .ok (.aload_n 0, 1) := by decide +kernel
theorem dX6_findWord_85 : decode cX6_findWord 85 = .ok (.iload_n 3, 1) := by decide +kernel
theorem dX6_findWord_86 : decode cX6_findWord 86 = .ok (.aload_n 0, 1) := by decide +kernel
theorem dX6_findWord_87 : decode cX6_findWord 87 = .ok (.getfield 114, 3) := by decide +kernel
theorem dX6_findWord_90 : decode cX6_findWord 90 = .ok (.invokevirtual 89, 3) := by decide +kernel
theorem dX6_findWord_93 : decode cX6_findWord 93 = .ok (.iconst (-1), 1) := by decide +kernel
theorem dX6_findWord_94 : decode cX6_findWord 94 = .ok (.if_icmp .ne 5, 3) := by decide +kernel
theorem dX6_findWord_97 : decode cX6_findWord 97 = .ok (.iconst 2, 1) := by decide +kernel
theorem dX6_findWord_98 : decode cX6_findWord 98 = .ok (.ireturn, 1) := by decide +kernel
theorem dX6_findWord_99 : decode cX6_findWord 99 = .ok (.aload_n 0, 1) := by decide +kernel
theorem dX6_findWord_100 : decode cX6_findWord 100 = .ok (.getfield 37, 3) := by decide +kernel
theorem dX6_findWord_103 : decode cX6_findWord 103 = .ok (.iload_n 1, 1) := by decide +kernel
theorem dX6_findWord_104 : decode cX6_findWord 104 = .ok (.aload_n 0, 1) := by decide +kernel
theorem dX6_findWord_105 : decode cX6_findWord 105 = .ok (.iload_n 3, 1) := by decide +kernel
theorem dX6_findWord_106 : decode cX6_findWord 106 = .ok (.aload_n 0, 1) := by decide +kernel
theorem dX6_findWord_107 : decode cX6_findWord 107 = .ok (.getfield 114, 3) := by decide +kernel
theorem dX6_findWord_110 : decode cX6_findWord 110 = .ok (.invokevirtual 92, 3) := by decide +kernel
theorem dX6_findWord_113 : decode cX6_findWord 113 = .ok (.iastore, 1) := by decide +kernel
theorem dX6_findWord_114 : decode cX6_findWord 114 = .ok (.iload 4, 2) := by decide +kernel
theorem dX6_findWord_116 : decode cX6_findWord 116 = .ok (.ifCond .ne 19, 3) := by decide +kernel
theorem dX6_findWord_119 : decode cX6_findWord 119 = .ok (.aload_n 0, 1) := by decide +kernel
theorem dX6_findWord_120 : decode cX6_findWord 120 = .ok (.aload_n 0, 1) := by decide +kernel
theorem dX6_findWord_121 : decode cX6_findWord 121 = .ok (.getfield 114, 3) := by decide +kernel
theorem dX6_findWord_124 : decode cX6_findWord 124 = .ok (.ifCond .ne 7, 3) := by decide +kernel
theorem dX6_findWord_127 : decode cX6_findWord 127 = .ok (.iconst 1, 1) := by decide +kernel
theorem dX6_findWord_128 : decode cX6_findWord 128 = .ok (.goto 4, 3) := by decide +kernel
theorem dX6_findWord_131 : decode cX6_findWord 131 = .ok (.iconst 0, 1) := by decide +kernel
theorem dX6_findWord_132 : decode cX6_findWord 132 = .ok (.putfield 114, 3) := by decide +kernel
theorem dX6_findWord_135 : decode cX6_findWord 135 = .ok (.iload_n 1, 1) := by decide +kernel
theorem dX6_findWord_136 : decode cX6_findWord 136 = .ok (.ifCond .ne 23, 3) := by decide +kernel
theorem dX6_findWord_139 : decode cX6_findWord 139 = .ok (.aload_n 0, 1) := by decide +kernel
theorem dX6_findWord_140 : decode cX6_findWord 140 = .ok (.getfield 37, 3) := by decide +kernel
theorem dX6_findWord_143 : decode cX6_findWord 143 = .ok (.iload_n 1, 1) := by decide +kernel
theorem dX6_findWord_144 : decode cX6_findWord 144 = .ok (.iaload, 1) := by decide +kernel
theorem dX6_findWord_145 : decode cX6_findWord 145 = .ok (.sipush 256, 3) := by decide +kernel
theorem dX6_findWord_148 : decode cX6_findWord 148 = .ok (.if_icmp .ne 7, 3) := by decide +kernel
theorem dX6_findWord_151 : decode cX6_findWord 151 = .ok (.iconst 1, 1) := by decide +kernel
theorem dX6_findWord_152 : decode cX6_findWord 152 = .ok (.goto 51, 3) := by decide +kernel
theorem dX6_findWord_155 : decode cX6_findWord 155 = .ok (.iconst 0, 1) := by decide +kernel
theorem dX6_findWord_156 : decode cX6_findWord 156 = .ok (.goto 47, 3) := by decide +kernel
theorem dX6_findWord_159 : decode cX6_findWord 159 = .ok (.iload_n 1, 1) := by decide +kernel
theorem dX6_findWord_160 : decode cX6_findWord 160 = .ok (.iload_n 2, 1) := by decide +kernel
theorem dX6_findWord_161 : decode cX6_findWord 161 = .ok (.iconst 1, 1) := by decide +kernel
theorem dX6_findWord_162 : decode cX6_findWord 162 = .ok (.isub, 1) := by decide +kernel
theorem dX6_findWord_163 : decode cX6_findWord 163 = .ok (.if_icmp .ne 23, 3) := by decide +kernel
theorem dX6_findWord_166 : decode cX6_findWord 166 = .ok (.aload_n 0, 1) := by decide +kernel
theorem dX6_findWord_167 : decode cX6_findWord 167 = .ok (.getfield 37, 3) := by decide +kernel
theorem dX6_findWord_170 : decode cX6_findWord 170 = .ok (.iload_n 1, 1) := by decide +kernel
theorem dX6_findWord_171 : decode cX6_findWord 171 = .ok (.iaload, 1) := by decide +kernel
theorem dX6_findWord_172 : decode cX6_findWord 172 = .ok (.sipush 257, 3) := by decide +kernel
theorem dX6_findWord_175 : decode cX6_findWord 175 = .ok (.if_icmp .ne 7, 3) := by decide +kernel
theorem dX6_findWord_178 : decode cX6_findWord 178 = .ok (.iconst 1, 1) := by decide +kernel
theorem dX6_findWord_179 : decode cX6_findWord 179 = .ok (.goto 24, 3) := by decide +kernel
theorem dX6_findWord_182 : decode cX6_findWord 182 = .ok (.iconst 0, 1) := by decide +kernel
theorem dX6_findWord_183 : decode cX6_findWord 183 = .ok (.goto 20, 3) := by decide +kernel
theorem dX6_findWord_186 : decode cX6_findWord 186 = .ok (.aload_n 0, 1) := by decide +kernel
theorem dX6_findWord_187 : decode cX6_findWord 187 = .ok (.getfield 37, 3) := by decide +kernel
theorem dX6_findWord_190 : decode cX6_findWord 190 = .ok (.iload_n 1, 1) := by decide +kernel
theorem dX6_findWord_191 : decode cX6_findWord 191 = .ok (.iaload, 1) := by decide +kernel
theorem dX6_findWord_192 : decode cX6_findWord 192 = .ok (.sipush 256, 3) := by decide +kernel
theorem dX6_findWord_195 : decode cX6_findWord 195 = .ok (.if_icmp .ge 7, 3) := by decide +kernel
theorem dX6_findWord_198 : decode cX6_findWord 198 = .ok (.iconst 1, 1) := by decide +kernel
theorem dX6_findWord_199 : decode cX6_findWord 199 = .ok (.goto 4, 3) := by decide +kernel
theorem dX6_findWord_202 : decode cX6_findWord 202 = .ok (.iconst 0, 1) := by decide +kernel
theorem dX6_findWord_203 : decode cX6_findWord 203 = .ok (.istore 5, 2) := by decide +kernel
theorem dX6_findWord_205 : decode cX6_findWord 205 = .ok (.iload 5, 2) := by decide +kernel
theorem dX6_findWord_207 : decode cX6_findWord 207 = .ok (.ifCond .eq 7, 3) := by decide +kernel
theorem dX6_findWord_210 : decode cX6_findWord 210 = .ok (.iconst 0, 1) := by decide +kernel
theorem dX6_findWord_211 : decode cX6_findWord 211 = .ok (.goto 4, 3) := by decide +kernel
theorem dX6_findWord_214 : decode cX6_findWord 214 = .ok (.iconst 3, 1) := by decide +kernel
theorem dX6_findWord_215 : decode cX6_findWord 215 = .ok (.ireturn, 1) := by decide +kernel
theorem dX6_receive_0 : decode cX6_receive 0 = .ok (.aload_n 0, 1) := by decide +kernel
theorem dX6_receive_1 : decode cX6_receive 1 = .ok (.getfield 118, 3) := by decide +kernel
theorem dX6_receive_4 : decode cX6_receive 4 = .ok (.bipush 10, 2) := by decide +kernel
theorem dX6_receive_6 : decode cX6_receive 6 = .ok (.idiv, 1) := by decide +kernel
theorem dX6_receive_7 : decode cX6_receive 7 = .ok (.istore_n 1, 1) := by decide +kernel
theorem dX6_receive_8 : decode cX6_receive 8 = .ok (.aload_n 0, 1) := by decide +kernel
theorem dX6_receive_9 : decode cX6_receive 9 = .ok (.iconst 0, 1) := by decide +kernel
theorem dX6_receive_10 : decode cX6_receive 10 = .ok (.putfield 114, 3) := by decide +kernel
theorem dX6_receive_13 : decode cX6_receive 13 = .ok (.iconst 0, 1) := by decide +kernel
theorem dX6_receive_14 : decode cX6_receive 14 = .ok (.istore_n 2, 1) := by decide +kernel
theorem dX6_receive_15 : decode cX6_receive 15 = .ok (.iload_n 2, 1) := by decide +kernel
theorem dX6_receive_16 : decode cX6_receive 16 = .ok (.iload_n 1, 1) := by decide +kernel
theorem dX6_receive_17 : decode cX6_receive 17 = .ok (.if_icmp .ge 22, 3) := by decide +kernel
theorem dX6_receive_20 : decode cX6_receive 20 = .ok (.aload_n 0, 1) := by decide +kernel
theorem dX6_receive_21 : decode cX6_receive 21 = .ok (.iload_n 2, 1) := by decide +kernel
theorem dX6_receive_22 : decode cX6_receive 22 = .ok (.iload_n 1, 1) := by decide +kernel
theorem dX6_receive_23 : decode cX6_receive 23 = .ok (.invokevirtual 138, 3) := by decide +kernel
theorem dX6_receive_26 : decode cX6_receive 26 = .ok (.istore_n 3, 1) := by decide +kernel
theorem dX6_receive_27 : decode cX6_receive 27 = .ok (.iload_n 3, 1) := by decide +kernel
theorem dX6_receive_28 : decode cX6_receive 28 = .ok (.ifCond .eq 5, 3) := by decide +kernel
theorem dX6_receive_31 : decode cX6_receive 31 = .ok (.iload_n 3, 1) := by decide +kernel
theorem dX6_receive_32 : decode cX6_receive 32 = .ok (.ireturn, 1) := by decide +kernel
theorem dX6_receive_33 : decode cX6_receive 33 = .ok (.iinc 2 1, 3) := by decide +kernel
theorem dX6_receive_36 : decode cX6_receive 36 = .ok (.goto (-21), 3) := by decide +kernel
theorem dX6_receive_39 : decode cX6_receive 39 = .ok (.aload_n 0, 1) := by decide +kernel
theorem dX6_receive_40 : decode cX6_receive 40 = .ok (.ldc 112, 2) := by decide +kernel
theorem dX6_receive_42 : decode cX6_receive 42 = .ok (.putfield 109, 3) := by decide +kernel
theorem dX6_receive_45 : decode cX6_receive 45 = .ok (.iconst 1, 1) := by decide +kernel
theorem dX6_receive_46 : decode cX6_receive 46 = .ok (.istore_n 2, 1) := by decide +kernel
theorem dX6_receive_47 : decode cX6_receive 47 = .ok (.iload_n 2, 1) := by decide +kernel
theorem dX6_receive_48 : decode cX6_receive 48 = .ok (.iload_n 1, 1) := by decide +kernel
theorem dX6_receive_49 : decode cX6_receive 49 = .ok (.iconst 1, 1) := by decide +kernel
theorem dX6_receive_50 : decode cX6_receive 50 = .ok (.isub, 1) := by decide +kernel
theorem dX6_receive_51 : decode cX6_receive 51 = .ok (.if_icmp .ge 26, 3) := by decide +kernel
theorem dX6_receive_54 : decode cX6_receive 54 = .ok (.aload_n 0, 1) := by decide +kernel
theorem dX6_receive_55 : decode cX6_receive 55 = .ok (.getfield 37, 3) := by decide +kernel
theorem dX6_receive_58 : decode cX6_receive 58 = .ok (.iload_n 2, 1) := by decide +kernel
theorem dX6_receive_59 : decode cX6_receive 59 = .ok (.aload_n 0, 1) := by decide +kernel
theorem dX6_receive_60 : decode cX6_receive 60 = .ok (.getfield 37, 3) := by decide +kernel
theorem dX6_receive_63 : decode cX6_receive 63 = .ok (.iload_n 2, 1) := by decide +kernel
theorem dX6_receive_64 : decode cX6_receive 64 = .ok (.iaload, 1) := by decide +kernel
theorem dX6_receive_65 : decode cX6_receive 65 = .ok (.aload_n 0, 1) := by decide +kernel
theorem dX6_receive_66 : decode cX6_receive 66 = .ok (.invokevirtual 128, 3) := by decide +kernel
theorem dX6_receive_69 : decode cX6_receive 69 = .ok (.ixor, 1) := by decide +kernel
theorem dX6_receive_70 : decode cX6_receive 70 = .ok (.iastore, 1) := by decide +kernel
theorem dX6_receive_71 : decode cX6_receive 71 = .ok (.iinc 2 1, 3) := by decide +kernel
theorem dX6_receive_74 : decode cX6_receive 74 = .ok (.goto (-27), 3) := by decide +kernel
theorem dX6_receive_77 : decode cX6_receive 77 = .ok (.aload_n 0, 1) := by decide +kernel
theorem dX6_receive_78 : decode cX6_receive 78 = .ok (.getfield 37, 3) := by decide +kernel
theorem dX6_receive_81 : decode cX6_receive 81 = .ok (.iconst 1, 1) := by decide +kernel
theorem dX6_receive_82 : decode cX6_receive 82 = .ok (.iload_n 1, 1) := by decide +kernel
theorem dX6_receive_83 : decode cX6_receive 83 = .ok (.bipush 6, 2) := by decide +kernel
theorem dX6_receive_85 : decode cX6_receive 85 = .ok (.isub, 1) := by decide +kernel
theorem dX6_receive_86 : decode cX6_receive 86 = .ok (.invokestatic 105, 3) := by decide +kernel
theorem dX6_receive_89 : decode cX6_receive 89 = .ok (.istore_n 2, 1) := by decide +kernel
theorem dX6_receive_90 : decode cX6_receive 90 = .ok (.iconst 0, 1) := by decide +kernel
theorem dX6_receive_91 : decode cX6_receive 91 = .ok (.istore_n 3, 1) := by decide +kernel
theorem dX6_receive_92 : decode cX6_receive 92 = .ok (.iload_n 3, 1) := by decide +kernel
theorem dX6_receive_93 : decode cX6_receive 93 = .ok (.iconst 4, 1) := by decide +kernel
theorem dX6_receive_94 : decode cX6_receive 94 = .ok (.if_icmp .ge 37, 3) := by decide +kernel
theorem dX6_receive_97 : decode cX6_receive 97 = .ok (.aload_n 0, 1) := by decide +kernel
theorem dX6_receive_98 : decode cX6_receive 98 = .ok (.getfield 37, 3) := by decide +kernel
theorem dX6_receive_101 : decode cX6_receive 101 = .ok (.iload_n 1, 1) := by decide +kernel
theorem dX6_receive_102 : decode cX6_receive 102 = .ok (.iconst 5, 1) := by decide +kernel
theorem dX6_receive_103 : decode cX6_receive 103 = .ok (.isub, 1) := by decide +kernel
theorem dX6_receive_104 : decode cX6_receive 104 = .ok (.iload_n 3, 1) := by decide +kernel
theorem dX6_receive_105 : decode cX6_receive 105 = .ok (.iadd, 1) := by decide +kernel
theorem dX6_receive_106 : decode cX6_receive 106 = .ok (.iaload, 1) := by decide +kernel
theorem dX6_receive_107 : decode cX6_receive 107 = .ok (.iload_n 2, 1) := by decide +kernel
theorem dX6_receive_108 : decode cX6_receive 108 = .ok (.bipush 24, 2) := by decide +kernel
theorem dX6_receive_110 : decode cX6_receive 110 = .ok (.bipush 8, 2) := by decide +kernel
theorem dX6_receive_112 : decode cX6_receive 112 = .ok (.iload_n 3, 1) := by decide +kernel
theorem dX6_receive_113 : decode cX6_receive 113 = .ok (.imul, 1) := by decide +kernel
theorem dX6_receive_114 : decode cX6_receive 114 = .ok (.isub, 1) := by decide +kernel
theorem dX6_receive_115 : decode cX6_receive 115 = .ok (.iushr, 1) := by decide +kernel
theorem dX6_receive_116 : decode cX6_receive 116 = .ok (.sipush 255, 3) := by decide +kernel
theorem dX6_receive_119 : decode cX6_receive 119 = .ok (.iand, 1) := by decide +kernel
theorem dX6_receive_120 : decode cX6_receive 120 = .ok (.if_icmp .eq 5, 3) := by decide +kernel
theorem dX6_receive_123 : decode cX6_receive 123 = .ok (.iconst 4, 1) := by decide +kernel
theorem dX6_receive_124 : decode cX6_receive 124 = .ok (.ireturn, 1) := by decide +kernel
theorem dX6_receive_125 : decode cX6_receive 125 = .ok (.iinc 3 1, 3) := by decide +kernel
theorem dX6_receive_128 : decode cX6_receive 128 = .ok (.goto (-36), 3) := by decide +kernel
theorem dX6_receive_131 : decode cX6_receive 131 = .ok (.iconst 0, 1) := by decide +kernel
theorem dX6_receive_132 : decode cX6_receive 132 = .ok (.ireturn, 1) := by decide +kernel
theorem dX6_sendOnce_0 : decode cX6_sendOnce 0 = .ok (.aload_n 0, 1) := by decide +kernel
theorem dX6_sendOnce_1 : decode cX6_sendOnce 1 = .ok (.invokevirtual 141, 3) := by decide +kernel
theorem dX6_sendOnce_4 : decode cX6_sendOnce 4 = .ok (.aload_n 0, 1) := by decide +kernel
theorem dX6_sendOnce_5 : decode cX6_sendOnce 5 = .ok (.invokevirtual 144, 3) := by decide +kernel
theorem dX6_sendOnce_8 : decode cX6_sendOnce 8 = .ok (.istore_n 1, 1) := by decide +kernel
theorem dX6_sendOnce_9 : decode cX6_sendOnce 9 = .ok (.aload_n 0, 1) := by decide +kernel
theorem dX6_sendOnce_10 : decode cX6_sendOnce 10 = .ok (.getfield 28, 3) := by decide +kernel
theorem dX6_sendOnce_13 : decode cX6_sendOnce 13 = .ok (.aload_n 0, 1) := by decide +kernel
theorem dX6_sendOnce_14 : decode cX6_sendOnce 14 = .ok (.getfield 135, 3) := by decide +kernel
theorem dX6_sendOnce_17 : decode cX6_sendOnce 17 = .ok (.bipush 16, 2) := by decide +kernel
theorem dX6_sendOnce_19 : decode cX6_sendOnce 19 = .ok (.irem, 1) := by decide +kernel
theorem dX6_sendOnce_20 : decode cX6_sendOnce 20 = .ok (.iload_n 1, 1) := by decide +kernel
theorem dX6_sendOnce_21 : decode cX6_sendOnce 21 = .ok (.iastore, 1) := by decide +kernel
theorem dX6_sendOnce_22 : decode cX6_sendOnce 22 = .ok (.aload_n 0, 1) := by decide +kernel
theorem dX6_sendOnce_23 : decode cX6_sendOnce 23 = .ok (.dup, 1) := by decide +kernel
theorem dX6_sendOnce_24 : decode cX6_sendOnce 24 = .ok (.getfield 135, 3) := by decide +kernel
theorem dX6_sendOnce_27 : decode cX6_sendOnce 27 = .ok (.iconst 1, 1) := by decide +kernel
theorem dX6_sendOnce_28 : decode cX6_sendOnce 28 = .ok (.iadd, 1) := by decide +kernel
theorem dX6_sendOnce_29 : decode cX6_sendOnce 29 = .ok (.putfield 135, 3) := by decide +kernel
theorem dX6_sendOnce_32 : decode cX6_sendOnce 32 = .ok (.aload_n 0, 1) := by decide +kernel
theorem dX6_sendOnce_33 : decode cX6_sendOnce 33 = .ok (.dup, 1) := by decide +kernel
theorem dX6_sendOnce_34 : decode cX6_sendOnce 34 = .ok (.getfield 147, 3) := by decide +kernel
theorem dX6_sendOnce_37 : decode cX6_sendOnce 37 = .ok (.iload_n 1, 1) := by decide +kernel
theorem dX6_sendOnce_38 : decode cX6_sendOnce 38 = .ok (.ifCond .eq 7, 3) := by decide +kernel
theorem dX6_sendOnce_41 : decode cX6_sendOnce 41 = .ok (.iconst 1, 1) := by decide +kernel
theorem dX6_sendOnce_42 : decode cX6_sendOnce 42 = .ok (.goto 4, 3) := by decide +kernel
theorem dX6_sendOnce_45 : decode cX6_sendOnce 45 = .ok (.iconst 0, 1) := by decide +kernel
theorem dX6_sendOnce_46 : decode cX6_sendOnce 46 = .ok (.iadd, 1) := by decide +kernel
theorem dX6_sendOnce_47 : decode cX6_sendOnce 47 = .ok (.putfield 147, 3) := by decide +kernel
theorem dX6_sendOnce_50 : decode cX6_sendOnce 50 = .ok (.iload_n 1, 1) := by decide +kernel
theorem dX6_sendOnce_51 : decode cX6_sendOnce 51 = .ok (.ireturn, 1) := by decide +kernel
theorem dX6_send_0 : decode cX6_send 0 = .ok (.iconst 0, 1) := by decide +kernel
theorem dX6_send_1 : decode cX6_send 1 = .ok (.istore_n 1, 1) := by decide +kernel
theorem dX6_send_2 : decode cX6_send 2 = .ok (.iload_n 1, 1) := by decide +kernel
theorem dX6_send_3 : decode cX6_send 3 = .ok (.iconst 4, 1) := by decide +kernel
theorem dX6_send_4 : decode cX6_send 4 = .ok (.if_icmp .ge 18, 3) := by decide +kernel
theorem dX6_send_7 : decode cX6_send 7 = .ok (.aload_n 0, 1) := by decide +kernel
theorem dX6_send_8 : decode cX6_send 8 = .ok (.invokevirtual 150, 3) := by decide +kernel
theorem dX6_send_11 : decode cX6_send 11 = .ok (.ifCond .ne 5, 3) := by decide +kernel
theorem dX6_send_14 : decode cX6_send 14 = .ok (.iconst 1, 1) := by decide +kernel
theorem dX6_send_15 : decode cX6_send 15 = .ok (.ireturn, 1) := by decide +kernel
theorem dX6_send_16 : decode cX6_send 16 = .ok (.iinc 1 1, 3) := by decide +kernel
theorem dX6_send_19 : decode cX6_send 19 = .ok (.goto (-17), 3) := by decide +kernel
theorem dX6_send_22 : decode cX6_send 22 = .ok (.aload_n 0, 1) := by decide +kernel
theorem dX6_send_23 : decode cX6_send 23 = .ok (.dup, 1) := by decide +kernel
theorem dX6_send_24 : decode cX6_send 24 = .ok (.getfield 153, 3) := by decide +kernel
theorem dX6_send_27 : decode cX6_send 27 = .ok (.iconst 1, 1) := by decide +kernel
theorem dX6_send_28 : decode cX6_send 28 = .ok (.iadd, 1) := by decide +kernel
theorem dX6_send_29 : decode cX6_send 29 = .ok (.putfield 153, 3) := by decide +kernel
theorem dX6_send_32 : decode cX6_send 32 = .ok (.iconst 0, 1) := by decide +kernel
theorem dX6_send_33 : decode cX6_send 33 = .ok (.ireturn, 1) := by decide +kernel
theorem dX6_test_0 : decode cX6_test 0 = .ok (.aload_n 0, 1) := by decide +kernel
theorem dX6_test_1 : decode cX6_test 1 = .ok (.getfield 95, 3) := by decide +kernel
theorem dX6_test_4 : decode cX6_test 4 = .ok (.ifCond .ne 6, 3) := by decide +kernel
theorem dX6_test_7 : decode cX6_test 7 = .ok (.bipush (-4), 2) := by decide +kernel
theorem dX6_test_9 : decode cX6_test 9 = .ok (.ireturn, 1) := by decide +kernel
theorem dX6_test_10 : decode cX6_test 10 = .ok (.aload_n 0, 1) := by decide +kernel
theorem dX6_test_11 : decode cX6_test 11 = .ok (.aload_n 0, 1) := by decide +kernel
theorem dX6_test_12 : decode cX6_test 12 = .ok (.getfield 95, 3) := by decide +kernel
theorem dX6_test_15 : decode cX6_test 15 = .ok (.putfield 125, 3) := by decide +kernel
theorem dX6_test_18 : decode cX6_test 18 = .ok (.iconst 0, 1) := by decide +kernel
theorem dX6_test_19 : decode cX6_test 19 = .ok (.istore_n 1, 1) := by decide +kernel
theorem dX6_test_20 : decode cX6_test 20 = .ok (.iload_n 1, 1) := by decide +kernel
theorem dX6_test_21 : decode cX6_test 21 = .ok (.aload_n 0, 1) := by decide +kernel
theorem dX6_test_22 : decode cX6_test 22 = .ok (.getfield 125, 3) := by decide +kernel
theorem dX6_test_25 : decode cX6_test 25 = .ok (.if_icmp .ge 21, 3) := by decide +kernel
theorem dX6_test_28 : decode cX6_test 28 = .ok (.aload_n 0, 1) := by decide +kernel
theorem dX6_test_29 : decode cX6_test 29 = .ok (.getfield 34, 3) := by decide +kernel
theorem dX6_test_32 : decode cX6_test 32 = .ok (.iload_n 1, 1) := by decide +kernel
theorem dX6_test_33 : decode cX6_test 33 = .ok (.aload_n 0, 1) := by decide +kernel
theorem dX6_test_34 : decode cX6_test 34 = .ok (.getfield 19, 3) := by decide +kernel
theorem dX6_test_37 : decode cX6_test 37 = .ok (.iload_n 1, 1) := by decide +kernel
theorem dX6_test_38 : decode cX6_test 38 = .ok (.iaload, 1) := by decide +kernel
theorem dX6_test_39 : decode cX6_test 39 = .ok (.iastore, 1) := by decide +kernel
theorem dX6_test_40 : decode cX6_test 40 = .ok (.iinc 1 1, 3) := by decide +kernel
theorem dX6_test_43 : decode cX6_test 43 = .ok (.goto (-23), 3) := by decide +kernel
theorem dX6_test_46 : decode cX6_test 46 = .ok (.aload_n 0, 1) := by decide +kernel
theorem dX6_test_47 : decode cX6_test 47 = .ok (.iconst 0, 1) := by decide +kernel
theorem dX6_test_48 : decode cX6_test 48 = .ok (.putfield 95, 3) := by decide +kernel
theorem dX6_test_51 : decode cX6_test 51 = .ok (.aload_n 0, 1) := by decide +kernel
theorem dX6_test_52 : decode cX6_test 52 = .ok (.invokevirtual 150, 3) := by decide +kernel
theorem dX6_test_55 : decode cX6_test 55 = .ok (.ireturn, 1) := by decide +kernel
theorem dX6_wire_0 : decode cX6_wire 0 = .ok (.iload_n 1, 1) := by decide +kernel
theorem dX6_wire_1 : decode cX6_wire 1 = .ok (.iconst 0, 1) := by decide +kernel
theorem dX6_wire_2 : decode cX6_wire 2 = .ok (.aload_n 0, 1) := by decide +kernel
theorem dX6_wire_3 : decode cX6_wire 3 = .ok (.getfield 118, 3) := by decide +kernel
theorem dX6_wire_6 : decode cX6_wire 6 = .ok (.iconst 1, 1) := by decide +kernel
theorem dX6_wire_7 : decode cX6_wire 7 = .ok (.isub, 1) := by decide +kernel
theorem dX6_wire_8 : decode cX6_wire 8 = .ok (.invokestatic 81, 3) := by decide +kernel
theorem dX6_wire_11 : decode cX6_wire 11 = .ok (.ifCond .eq 12, 3) := by decide +kernel
theorem dX6_wire_14 : decode cX6_wire 14 = .ok (.aload_n 0, 1) := by decide +kernel
theorem dX6_wire_15 : decode cX6_wire 15 = .ok (.getfield 31, 3) := by decide +kernel
theorem dX6_wire_18 : decode cX6_wire 18 = .ok (.iload_n 1, 1) := by decide +kernel
theorem dX6_wire_19 : decode cX6_wire 19 = .ok (.iaload, 1) := by decide +kernel
theorem dX6_wire_20 : decode cX6_wire 20 = .ok (.goto 5, 3) := by decide +kernel
theorem dX6_wire_23 : decode cX6_wire 23 = .ok (.bipush (-2), 2) := by decide +kernel
theorem dX6_wire_25 : decode cX6_wire 25 = .ok (.ireturn, 1) := by decide +kernel
theorem dX6_finding_0 : decode cX6_finding 0 = .ok (.iload_n 1, 1) := by decide +kernel
theorem dX6_finding_1 : decode cX6_finding 1 = .ok (.iconst 0, 1) := by decide +kernel
theorem dX6_finding_2 : decode cX6_finding 2 = .ok (.bipush 15, 2) := by decide +kernel
theorem dX6_finding_4 : decode cX6_finding 4 = .ok (.invokestatic 81, 3) := by decide +kernel
theorem dX6_finding_7 : decode cX6_finding 7 = .ok (.ifCond .eq 30, 3) := by decide +kernel
theorem dX6_finding_10 : decode cX6_finding 10 = .ok (.iload_n 1, 1) := by decide +kernel
theorem dX6_finding_11 : decode cX6_finding 11 = .ok (.aload_n 0, 1) := by decide +kernel
theorem dX6_finding_12 : decode cX6_finding 12 = .ok (.getfield 135, 3) := by decide +kernel
theorem dX6_finding_15 : decode cX6_finding 15 = .ok (.if_icmp .ge 22, 3) := by decide +kernel
theorem dX6_finding_18 : decode cX6_finding 18 = .ok (.aload_n 0, 1) := by decide +kernel
theorem dX6_finding_19 : decode cX6_finding 19 = .ok (.getfield 28, 3) := by decide +kernel
theorem dX6_finding_22 : decode cX6_finding 22 = .ok (.aload_n 0, 1) := by decide +kernel
theorem dX6_finding_23 : decode cX6_finding 23 = .ok (.getfield 135, 3) := by decide +kernel
theorem dX6_finding_26 : decode cX6_finding 26 = .ok (.iconst 1, 1) := by decide +kernel
theorem dX6_finding_27 : decode cX6_finding 27 = .ok (.isub, 1) := by decide +kernel
theorem dX6_finding_28 : decode cX6_finding 28 = .ok (.iload_n 1, 1) := by decide +kernel
theorem dX6_finding_29 : decode cX6_finding 29 = .ok (.isub, 1) := by decide +kernel
theorem dX6_finding_30 : decode cX6_finding 30 = .ok (.bipush 16, 2) := by decide +kernel
theorem dX6_finding_32 : decode cX6_finding 32 = .ok (.irem, 1) := by decide +kernel
theorem dX6_finding_33 : decode cX6_finding 33 = .ok (.iaload, 1) := by decide +kernel
theorem dX6_finding_34 : decode cX6_finding 34 = .ok (.goto 5, 3) := by decide +kernel
theorem dX6_finding_37 : decode cX6_finding 37 = .ok (.bipush (-2), 2) := by decide +kernel
theorem dX6_finding_39 : decode cX6_finding 39 = .ok (.ireturn, 1) := by decide +kernel
theorem dX6_plan_0 : decode cX6_plan 0 = .ok (.iload_n 1, 1) := by decide +kernel
theorem dX6_plan_1 : decode cX6_plan 1 = .ok (.iconst 0, 1) := by decide +kernel
theorem dX6_plan_2 : decode cX6_plan 2 = .ok (.ldc 156, 2) := by decide +kernel
theorem dX6_plan_4 : decode cX6_plan 4 = .ok (.invokestatic 81, 3) := by decide +kernel
theorem dX6_plan_7 : decode cX6_plan 7 = .ok (.ifCond .eq 13, 3) := by decide +kernel
theorem dX6_plan_10 : decode cX6_plan 10 = .ok (.iload_n 2, 1) := by decide +kernel
theorem dX6_plan_11 : decode cX6_plan 11 = .ok (.iconst 0, 1) := by decide +kernel
theorem dX6_plan_12 : decode cX6_plan 12 = .ok (.ldc 156, 2) := by decide +kernel
theorem dX6_plan_14 : decode cX6_plan 14 = .ok (.invokestatic 81, 3) := by decide +kernel
theorem dX6_plan_17 : decode cX6_plan 17 = .ok (.ifCond .ne 6, 3) := by decide +kernel
theorem dX6_plan_20 : decode cX6_plan 20 = .ok (.bipush (-3), 2) := by decide +kernel
theorem dX6_plan_22 : decode cX6_plan 22 = .ok (.ireturn, 1) := by decide +kernel
theorem dX6_plan_23 : decode cX6_plan 23 = .ok (.aload_n 0, 1) := by decide +kernel
theorem dX6_plan_24 : decode cX6_plan 24 = .ok (.getfield 132, 3) := by decide +kernel
theorem dX6_plan_27 : decode cX6_plan 27 = .ok (.bipush 30, 2) := by decide +kernel
theorem dX6_plan_29 : decode cX6_plan 29 = .ok (.if_icmp .ne 6, 3) := by decide +kernel
theorem dX6_plan_32 : decode cX6_plan 32 = .ok (.bipush (-5), 2) := by decide +kernel
theorem dX6_plan_34 : decode cX6_plan 34 = .ok (.ireturn, 1) := by decide +kernel
theorem dX6_plan_35 : decode cX6_plan 35 = .ok (.aload_n 0, 1) := by decide +kernel
theorem dX6_plan_36 : decode cX6_plan 36 = .ok (.getfield 22, 3) := by decide +kernel
theorem dX6_plan_39 : decode cX6_plan 39 = .ok (.aload_n 0, 1) := by decide +kernel
theorem dX6_plan_40 : decode cX6_plan 40 = .ok (.getfield 132, 3) := by decide +kernel
theorem dX6_plan_43 : decode cX6_plan 43 = .ok (.iload_n 1, 1) := by decide +kernel
theorem dX6_plan_44 : decode cX6_plan 44 = .ok (.iastore, 1) := by decide +kernel
theorem dX6_plan_45 : decode cX6_plan 45 = .ok (.aload_n 0, 1) := by decide +kernel
theorem dX6_plan_46 : decode cX6_plan 46 = .ok (.getfield 25, 3) := by decide +kernel
theorem dX6_plan_49 : decode cX6_plan 49 = .ok (.aload_n 0, 1) := by decide +kernel
theorem dX6_plan_50 : decode cX6_plan 50 = .ok (.getfield 132, 3) := by decide +kernel
theorem dX6_plan_53 : decode cX6_plan 53 = .ok (.iload_n 2, 1) := by decide +kernel
theorem dX6_plan_54 : decode cX6_plan 54 = .ok (.iastore, 1) := by decide +kernel
theorem dX6_plan_55 : decode cX6_plan 55 = .ok (.aload_n 0, 1) := by decide +kernel
theorem dX6_plan_56 : decode cX6_plan 56 = .ok (.dup, 1) := by decide +kernel
theorem dX6_plan_57 : decode cX6_plan 57 = .ok (.getfield 132, 3) := by decide +kernel
theorem dX6_plan_60 : decode cX6_plan 60 = .ok (.iconst 1, 1) := by decide +kernel
theorem dX6_plan_61 : decode cX6_plan 61 = .ok (.iadd, 1) := by decide +kernel
theorem dX6_plan_62 : decode cX6_plan 62 = .ok (.putfield 132, 3) := by decide +kernel
theorem dX6_plan_65 : decode cX6_plan 65 = .ok (.aload_n 0, 1) := by decide +kernel
theorem dX6_plan_66 : decode cX6_plan 66 = .ok (.getfield 132, 3) := by decide +kernel
theorem dX6_plan_69 : decode cX6_plan 69 = .ok (.ireturn, 1) := by decide +kernel
theorem dX6_calm_0 : decode cX6_calm 0 = .ok (.aload_n 0, 1) := by decide +kernel
theorem dX6_calm_1 : decode cX6_calm 1 = .ok (.getfield 132, 3) := by decide +kernel
theorem dX6_calm_4 : decode cX6_calm 4 = .ok (.istore_n 1, 1) := by decide +kernel
theorem dX6_calm_5 : decode cX6_calm 5 = .ok (.aload_n 0, 1) := by decide +kernel
theorem dX6_calm_6 : decode cX6_calm 6 = .ok (.iconst 0, 1) := by decide +kernel
theorem dX6_calm_7 : decode cX6_calm 7 = .ok (.putfield 132, 3) := by decide +kernel
theorem dX6_calm_10 : decode cX6_calm 10 = .ok (.iload_n 1, 1) := by decide +kernel
theorem dX6_calm_11 : decode cX6_calm 11 = .ok (.ireturn, 1) := by decide +kernel
theorem dX6_isTag_0 : decode cX6_isTag 0 = .ok (.iload_n 0, 1) := by decide +kernel
theorem dX6_isTag_1 : decode cX6_isTag 1 = .ok (.iconst 0, 1) := by decide +kernel
theorem dX6_isTag_2 : decode cX6_isTag 2 = .ok (.bipush 7, 2) := by decide +kernel
theorem dX6_isTag_4 : decode cX6_isTag 4 = .ok (.invokestatic 81, 3) := by decide +kernel
theorem dX6_isTag_7 : decode cX6_isTag 7 = .ok (.ireturn, 1) := by decide +kernel
theorem dX6_issue_0 : decode cX6_issue 0 = .ok (.aload_n 0, 1) := by decide +kernel
theorem dX6_issue_1 : decode cX6_issue 1 = .ok (.getfield 49, 3) := by decide +kernel
theorem dX6_issue_4 : decode cX6_issue 4 = .ok (.iload_n 1, 1) := by decide +kernel
theorem dX6_issue_5 : decode cX6_issue 5 = .ok (.iconst 1, 1) := by decide +kernel
theorem dX6_issue_6 : decode cX6_issue 6 = .ok (.iastore, 1) := by decide +kernel
theorem dX6_issue_7 : decode cX6_issue 7 = .ok (.aload_n 0, 1) := by decide +kernel
theorem dX6_issue_8 : decode cX6_issue 8 = .ok (.getfield 52, 3) := by decide +kernel
theorem dX6_issue_11 : decode cX6_issue 11 = .ok (.iload_n 1, 1) := by decide +kernel
theorem dX6_issue_12 : decode cX6_issue 12 = .ok (.iload_n 2, 1) := by decide +kernel
theorem dX6_issue_13 : decode cX6_issue 13 = .ok (.iastore, 1) := by decide +kernel
theorem dX6_issue_14 : decode cX6_issue 14 = .ok (.aload_n 0, 1) := by decide +kernel
theorem dX6_issue_15 : decode cX6_issue 15 = .ok (.getfield 55, 3) := by decide +kernel
theorem dX6_issue_18 : decode cX6_issue 18 = .ok (.iload_n 1, 1) := by decide +kernel
theorem dX6_issue_19 : decode cX6_issue 19 = .ok (.iload_n 3, 1) := by decide +kernel
theorem dX6_issue_20 : decode cX6_issue 20 = .ok (.iastore, 1) := by decide +kernel
theorem dX6_issue_21 : decode cX6_issue 21 = .ok (.aload_n 0, 1) := by decide +kernel
theorem dX6_issue_22 : decode cX6_issue 22 = .ok (.getfield 58, 3) := by decide +kernel
theorem dX6_issue_25 : decode cX6_issue 25 = .ok (.iload_n 1, 1) := by decide +kernel
theorem dX6_issue_26 : decode cX6_issue 26 = .ok (.iload 4, 2) := by decide +kernel
theorem dX6_issue_28 : decode cX6_issue 28 = .ok (.iastore, 1) := by decide +kernel
theorem dX6_issue_29 : decode cX6_issue 29 = .ok (.aload_n 0, 1) := by decide +kernel
theorem dX6_issue_30 : decode cX6_issue 30 = .ok (.getfield 64, 3) := by decide +kernel
theorem dX6_issue_33 : decode cX6_issue 33 = .ok (.iload_n 1, 1) := by decide +kernel
theorem dX6_issue_34 : decode cX6_issue 34 = .ok (.aload_n 0, 1) := by decide +kernel
theorem dX6_issue_35 : decode cX6_issue 35 = .ok (.getfield 157, 3) := by decide +kernel
theorem dX6_issue_38 : decode cX6_issue 38 = .ok (.iastore, 1) := by decide +kernel
theorem dX6_issue_39 : decode cX6_issue 39 = .ok (.aload_n 0, 1) := by decide +kernel
theorem dX6_issue_40 : decode cX6_issue 40 = .ok (.dup, 1) := by decide +kernel
theorem dX6_issue_41 : decode cX6_issue 41 = .ok (.getfield 157, 3) := by decide +kernel
theorem dX6_issue_44 : decode cX6_issue 44 = .ok (.iconst 1, 1) := by decide +kernel
theorem dX6_issue_45 : decode cX6_issue 45 = .ok (.iadd, 1) := by decide +kernel
theorem dX6_issue_46 : decode cX6_issue 46 = .ok (.putfield 157, 3) := by decide +kernel
theorem dX6_issue_49 : decode cX6_issue 49 = .ok (.iconst 1, 1) := by decide +kernel
theorem dX6_issue_50 : decode cX6_issue 50 = .ok (.ireturn, 1) := by decide +kernel
theorem dX6_against_0 : decode cX6_against 0 = .ok (.iload_n 1, 1) := by decide +kernel
theorem dX6_against_1 : decode cX6_against 1 = .ok (.invokestatic 160, 3) := by decide +kernel
theorem dX6_against_4 : decode cX6_against 4 = .ok (.ifCond .ne 6, 3) := by decide +kernel
theorem dX6_against_7 : decode cX6_against 7 = .ok (.bipush (-2), 2) := by decide +kernel
theorem dX6_against_9 : decode cX6_against 9 = .ok (.ireturn, 1) := by decide +kernel
theorem dX6_against_10 : decode cX6_against 10 = .ok (.iload_n 2, 1) := by decide +kernel
theorem dX6_against_11 : decode cX6_against 11 = .ok (.iconst 0, 1) := by decide +kernel
theorem dX6_against_12 : decode cX6_against 12 = .ok (.bipush 63, 2) := by decide +kernel
theorem dX6_against_14 : decode cX6_against 14 = .ok (.invokestatic 81, 3) := by decide +kernel
theorem dX6_against_17 : decode cX6_against 17 = .ok (.ifCond .eq 12, 3) := by decide +kernel
theorem dX6_against_20 : decode cX6_against 20 = .ok (.iload_n 3, 1) := by decide +kernel
theorem dX6_against_21 : decode cX6_against 21 = .ok (.iconst 1, 1) := by decide +kernel
theorem dX6_against_22 : decode cX6_against 22 = .ok (.iconst 4, 1) := by decide +kernel
theorem dX6_against_23 : decode cX6_against 23 = .ok (.invokestatic 81, 3) := by decide +kernel
theorem dX6_against_26 : decode cX6_against 26 = .ok (.ifCond .ne 6, 3) := by decide +kernel
theorem dX6_against_29 : decode cX6_against 29 = .ok (.bipush (-3), 2) := by decide +kernel
theorem dX6_against_31 : decode cX6_against 31 = .ok (.ireturn, 1) := by decide +kernel
theorem dX6_against_32 : decode cX6_against 32 = .ok (.aload_n 0, 1) := by decide +kernel
theorem dX6_against_33 : decode cX6_against 33 = .ok (.getfield 49, 3) := by decide +kernel
theorem dX6_against_36 : decode cX6_against 36 = .ok (.iload_n 1, 1) := by decide +kernel
theorem dX6_against_37 : decode cX6_against 37 = .ok (.iaload, 1) := by decide +kernel
theorem dX6_against_38 : decode cX6_against 38 = .ok (.ifCond .eq 8, 3) := by decide +kernel
theorem dX6_against_41 : decode cX6_against 41 = .ok (.bipush (-4), 2) := by decide +kernel
theorem dX6_against_43 : decode cX6_against 43 = .ok (.goto 4, 3) := by decide +kernel
theorem dX6_against_46 : decode cX6_against 46 = .ok (.iconst 0, 1) := by decide +kernel
theorem dX6_against_47 : decode cX6_against 47 = .ok (.ireturn, 1) := by decide +kernel
theorem dX6_read_0 : decode cX6_read 0 = .ok (.aload_n 0, 1) := by decide +kernel
theorem dX6_read_1 : decode cX6_read 1 = .ok (.iload_n 1, 1) := by decide +kernel
theorem dX6_read_2 : decode cX6_read 2 = .ok (.iload_n 2, 1) := by decide +kernel
theorem dX6_read_3 : decode cX6_read 3 = .ok (.iload_n 3, 1) := by decide +kernel
theorem dX6_read_4 : decode cX6_read 4 = .ok (.invokevirtual 163, 3) := by decide +kernel
theorem dX6_read_7 : decode cX6_read 7 = .ok (.istore 4, 2) := by decide +kernel
theorem dX6_read_9 : decode cX6_read 9 = .ok (.iload 4, 2) := by decide +kernel
theorem dX6_read_11 : decode cX6_read 11 = .ok (.ifCond .eq 8, 3) := by decide +kernel
theorem dX6_read_14 : decode cX6_read 14 = .ok (.iload 4, 2) := by decide +kernel
theorem dX6_read_16 : decode cX6_read 16 = .ok (.goto 11, 3) := by decide +kernel
theorem dX6_read_19 : decode cX6_read 19 = .ok (.aload_n 0, 1) := by decide +kernel
theorem dX6_read_20 : decode cX6_read 20 = .ok (.iload_n 1, 1) := by decide +kernel
theorem dX6_read_21 : decode cX6_read 21 = .ok (.iconst 0, 1) := by decide +kernel
theorem dX6_read_22 : decode cX6_read 22 = .ok (.iload_n 2, 1) := by decide +kernel
theorem dX6_read_23 : decode cX6_read 23 = .ok (.iload_n 3, 1) := by decide +kernel
theorem dX6_read_24 : decode cX6_read 24 = .ok (.invokevirtual 167, 3) := by decide +kernel
theorem dX6_read_27 : decode cX6_read 27 = .ok (.ireturn, 1) := by decide +kernel
theorem dX6_write_0 : decode cX6_write 0 = .ok (.aload_n 0, 1) := by decide +kernel
theorem dX6_write_1 : decode cX6_write 1 = .ok (.iload_n 1, 1) := by decide +kernel
theorem dX6_write_2 : decode cX6_write 2 = .ok (.iload_n 2, 1) := by decide +kernel
theorem dX6_write_3 : decode cX6_write 3 = .ok (.iload_n 3, 1) := by decide +kernel
theorem dX6_write_4 : decode cX6_write 4 = .ok (.invokevirtual 163, 3) := by decide +kernel
theorem dX6_write_7 : decode cX6_write 7 = .ok (.istore 9, 2) := by decide +kernel
theorem dX6_write_9 : decode cX6_write 9 = .ok (.iload 9, 2) := by decide +kernel
theorem dX6_write_11 : decode cX6_write 11 = .ok (.ifCond .eq 6, 3) := by decide +kernel
theorem dX6_write_14 : decode cX6_write 14 = .ok (.iload 9, 2) := by decide +kernel
theorem dX6_write_16 : decode cX6_write 16 = .ok (.ireturn, 1) := by decide +kernel
theorem dX6_write_17 : decode cX6_write 17 = .ok (.aload_n 0, 1) := by decide +kernel
theorem dX6_write_18 : decode cX6_write 18 = .ok (.getfield 61, 3) := by decide +kernel
theorem dX6_write_21 : decode cX6_write 21 = .ok (.iconst 4, 1) := by decide +kernel
theorem dX6_write_22 : decode cX6_write 22 = .ok (.iload_n 1, 1) := by decide +kernel
theorem dX6_write_23 : decode cX6_write 23 = .ok (.imul, 1) := by decide +kernel
theorem dX6_write_24 : decode cX6_write 24 = .ok (.iload 5, 2) := by decide +kernel
theorem dX6_write_26 : decode cX6_write 26 = .ok (.iastore, 1) := by decide +kernel
theorem dX6_write_27 : decode cX6_write 27 = .ok (.aload_n 0, 1) := by decide +kernel
theorem dX6_write_28 : decode cX6_write 28 = .ok (.getfield 61, 3) := by decide +kernel
theorem dX6_write_31 : decode cX6_write 31 = .ok (.iconst 4, 1) := by decide +kernel
theorem dX6_write_32 : decode cX6_write 32 = .ok (.iload_n 1, 1) := by decide +kernel
theorem dX6_write_33 : decode cX6_write 33 = .ok (.imul, 1) := by decide +kernel
theorem dX6_write_34 : decode cX6_write 34 = .ok (.iconst 1, 1) := by decide +kernel
theorem dX6_write_35 : decode cX6_write 35 = .ok (.iadd, 1) := by decide +kernel
theorem dX6_write_36 : decode cX6_write 36 = .ok (.iload 6, 2) := by decide +kernel
theorem dX6_write_38 : decode cX6_write 38 = .ok (.iastore, 1) := by decide +kernel
theorem dX6_write_39 : decode cX6_write 39 = .ok (.aload_n 0, 1) := by decide +kernel
theorem dX6_write_40 : decode cX6_write 40 = .ok (.getfield 61, 3) := by decide +kernel
theorem dX6_write_43 : decode cX6_write 43 = .ok (.iconst 4, 1) := by decide +kernel
theorem dX6_write_44 : decode cX6_write 44 = .ok (.iload_n 1, 1) := by decide +kernel
theorem dX6_write_45 : decode cX6_write 45 = .ok (.imul, 1) := by decide +kernel
theorem dX6_write_46 : decode cX6_write 46 = .ok (.iconst 2, 1) := by decide +kernel
theorem dX6_write_47 : decode cX6_write 47 = .ok (.iadd, 1) := by decide +kernel
theorem dX6_write_48 : decode cX6_write 48 = .ok (.iload 7, 2) := by decide +kernel
theorem dX6_write_50 : decode cX6_write 50 = .ok (.iastore, 1) := by decide +kernel
theorem dX6_write_51 : decode cX6_write 51 = .ok (.aload_n 0, 1) := by decide +kernel
theorem dX6_write_52 : decode cX6_write 52 = .ok (.getfield 61, 3) := by decide +kernel
theorem dX6_write_55 : decode cX6_write 55 = .ok (.iconst 4, 1) := by decide +kernel
theorem dX6_write_56 : decode cX6_write 56 = .ok (.iload_n 1, 1) := by decide +kernel
theorem dX6_write_57 : decode cX6_write 57 = .ok (.imul, 1) := by decide +kernel
theorem dX6_write_58 : decode cX6_write 58 = .ok (.iconst 3, 1) := by decide +kernel
theorem dX6_write_59 : decode cX6_write 59 = .ok (.iadd, 1) := by decide +kernel
theorem dX6_write_60 : decode cX6_write 60 = .ok (.iload 8, 2) := by decide +kernel
theorem dX6_write_62 : decode cX6_write 62 = .ok (.iastore, 1) := by decide +kernel
theorem dX6_write_63 : decode cX6_write 63 = .ok (.aload_n 0, 1) := by decide +kernel
theorem dX6_write_64 : decode cX6_write 64 = .ok (.iload_n 1, 1) := by decide +kernel
theorem dX6_write_65 : decode cX6_write 65 = .ok (.iload 4, 2) := by decide +kernel
theorem dX6_write_67 : decode cX6_write 67 = .ok (.ifCond .eq 7, 3) := by decide +kernel
theorem dX6_write_70 : decode cX6_write 70 = .ok (.iconst 2, 1) := by decide +kernel
theorem dX6_write_71 : decode cX6_write 71 = .ok (.goto 4, 3) := by decide +kernel
theorem dX6_write_74 : decode cX6_write 74 = .ok (.iconst 1, 1) := by decide +kernel
theorem dX6_write_75 : decode cX6_write 75 = .ok (.iload_n 2, 1) := by decide +kernel
theorem dX6_write_76 : decode cX6_write 76 = .ok (.iload_n 3, 1) := by decide +kernel
theorem dX6_write_77 : decode cX6_write 77 = .ok (.invokevirtual 167, 3) := by decide +kernel
theorem dX6_write_80 : decode cX6_write 80 = .ok (.ireturn, 1) := by decide +kernel
theorem dX6_flush_0 : decode cX6_flush 0 = .ok (.aload_n 0, 1) := by decide +kernel
theorem dX6_flush_1 : decode cX6_flush 1 = .ok (.iload_n 1, 1) := by decide +kernel
theorem dX6_flush_2 : decode cX6_flush 2 = .ok (.iconst 0, 1) := by decide +kernel
theorem dX6_flush_3 : decode cX6_flush 3 = .ok (.iconst 1, 1) := by decide +kernel
theorem dX6_flush_4 : decode cX6_flush 4 = .ok (.invokevirtual 163, 3) := by decide +kernel
theorem dX6_flush_7 : decode cX6_flush 7 = .ok (.istore_n 2, 1) := by decide +kernel
theorem dX6_flush_8 : decode cX6_flush 8 = .ok (.iload_n 2, 1) := by decide +kernel
theorem dX6_flush_9 : decode cX6_flush 9 = .ok (.ifCond .eq 7, 3) := by decide +kernel
theorem dX6_flush_12 : decode cX6_flush 12 = .ok (.iload_n 2, 1) := by decide +kernel
theorem dX6_flush_13 : decode cX6_flush 13 = .ok (.goto 11, 3) := by decide +kernel
theorem dX6_flush_16 : decode cX6_flush 16 = .ok (.aload_n 0, 1) := by decide +kernel
theorem dX6_flush_17 : decode cX6_flush 17 = .ok (.iload_n 1, 1) := by decide +kernel
theorem dX6_flush_18 : decode cX6_flush 18 = .ok (.iconst 3, 1) := by decide +kernel
theorem dX6_flush_19 : decode cX6_flush 19 = .ok (.iconst 0, 1) := by decide +kernel
theorem dX6_flush_20 : decode cX6_flush 20 = .ok (.iconst 0, 1) := by decide +kernel
theorem dX6_flush_21 : decode cX6_flush 21 = .ok (.invokevirtual 167, 3) := by decide +kernel
theorem dX6_flush_24 : decode cX6_flush 24 = .ok (.ireturn, 1) := by decide +kernel
theorem dX6_placeOf_0 : decode cX6_placeOf 0 = .ok (.iconst 0, 1) := by decide +kernel
theorem dX6_placeOf_1 : decode cX6_placeOf 1 = .ok (.istore_n 2, 1) := by decide +kernel
theorem dX6_placeOf_2 : decode cX6_placeOf 2 = .ok (.iload_n 2, 1) := by decide +kernel
theorem dX6_placeOf_3 : decode cX6_placeOf 3 = .ok (.aload_n 0, 1) := by decide +kernel
theorem dX6_placeOf_4 : decode cX6_placeOf 4 = .ok (.getfield 171, 3) := by decide +kernel
theorem dX6_placeOf_7 : decode cX6_placeOf 7 = .ok (.if_icmp .ge 21, 3) := by decide +kernel
theorem dX6_placeOf_10 : decode cX6_placeOf 10 = .ok (.aload_n 0, 1) := by decide +kernel
theorem dX6_placeOf_11 : decode cX6_placeOf 11 = .ok (.getfield 43, 3) := by decide +kernel
theorem dX6_placeOf_14 : decode cX6_placeOf 14 = .ok (.iload_n 2, 1) := by decide +kernel
theorem dX6_placeOf_15 : decode cX6_placeOf 15 = .ok (.iaload, 1) := by decide +kernel
theorem dX6_placeOf_16 : decode cX6_placeOf 16 = .ok (.iload_n 1, 1) := by decide +kernel
theorem dX6_placeOf_17 : decode cX6_placeOf 17 = .ok (.if_icmp .ne 5, 3) := by decide +kernel
theorem dX6_placeOf_20 : decode cX6_placeOf 20 = .ok (.iload_n 2, 1) := by decide +kernel
theorem dX6_placeOf_21 : decode cX6_placeOf 21 = .ok (.ireturn, 1) := by decide +kernel
theorem dX6_placeOf_22 : decode cX6_placeOf 22 = .ok (.iinc 2 1, 3) := by decide +kernel
theorem dX6_placeOf_25 : decode cX6_placeOf 25 = .ok (.goto (-23), 3) := by decide +kernel
theorem dX6_placeOf_28 : decode cX6_placeOf 28 = .ok (.iconst (-1), 1) := by decide +kernel
theorem dX6_placeOf_29 : decode cX6_placeOf 29 = .ok (.ireturn, 1) := by decide +kernel
theorem dX6_leave_0 : decode cX6_leave 0 = .ok (.aload_n 0, 1) := by decide +kernel
theorem dX6_leave_1 : decode cX6_leave 1 = .ok (.dup, 1) := by decide +kernel
theorem dX6_leave_2 : decode cX6_leave 2 = .ok (.getfield 171, 3) := by decide +kernel
theorem dX6_leave_5 : decode cX6_leave 5 = .ok (.iconst 1, 1) := by decide +kernel
theorem dX6_leave_6 : decode cX6_leave 6 = .ok (.isub, 1) := by decide +kernel
theorem dX6_leave_7 : decode cX6_leave 7 = .ok (.putfield 171, 3) := by decide +kernel
theorem dX6_leave_10 : decode cX6_leave 10 = .ok (.iload_n 1, 1) := by decide +kernel
theorem dX6_leave_11 : decode cX6_leave 11 = .ok (.istore_n 2, 1) := by decide +kernel
theorem dX6_leave_12 : decode cX6_leave 12 = .ok (.iload_n 2, 1) := by decide +kernel
theorem dX6_leave_13 : decode cX6_leave 13 = .ok (.aload_n 0, 1) := by decide +kernel
theorem dX6_leave_14 : decode cX6_leave 14 = .ok (.getfield 171, 3) := by decide +kernel
theorem dX6_leave_17 : decode cX6_leave 17 = .ok (.if_icmp .ge 37, 3) := by decide +kernel
theorem dX6_leave_20 : decode cX6_leave 20 = .ok (.aload_n 0, 1) := by decide +kernel
theorem dX6_leave_21 : decode cX6_leave 21 = .ok (.getfield 43, 3) := by decide +kernel
theorem dX6_leave_24 : decode cX6_leave 24 = .ok (.iload_n 2, 1) := by decide +kernel
theorem dX6_leave_25 : decode cX6_leave 25 = .ok (.aload_n 0, 1) := by decide +kernel
theorem dX6_leave_26 : decode cX6_leave 26 = .ok (.getfield 43, 3) := by decide +kernel
theorem dX6_leave_29 : decode cX6_leave 29 = .ok (.iload_n 2, 1) := by decide +kernel
theorem dX6_leave_30 : decode cX6_leave 30 = .ok (.iconst 1, 1) := by decide +kernel
theorem dX6_leave_31 : decode cX6_leave 31 = .ok (.iadd, 1) := by decide +kernel
theorem dX6_leave_32 : decode cX6_leave 32 = .ok (.iaload, 1) := by decide +kernel
theorem dX6_leave_33 : decode cX6_leave 33 = .ok (.iastore, 1) := by decide +kernel
theorem dX6_leave_34 : decode cX6_leave 34 = .ok (.aload_n 0, 1) := by decide +kernel
theorem dX6_leave_35 : decode cX6_leave 35 = .ok (.getfield 46, 3) := by decide +kernel
theorem dX6_leave_38 : decode cX6_leave 38 = .ok (.iload_n 2, 1) := by decide +kernel
theorem dX6_leave_39 : decode cX6_leave 39 = .ok (.aload_n 0, 1) := by decide +kernel
theorem dX6_leave_40 : decode cX6_leave 40 = .ok (.getfield 46, 3) := by decide +kernel
theorem dX6_leave_43 : decode cX6_leave 43 = .ok (.iload_n 2, 1) := by decide +kernel
theorem dX6_leave_44 : decode cX6_leave 44 = .ok (.iconst 1, 1) := by decide +kernel
theorem dX6_leave_45 : decode cX6_leave 45 = .ok (.iadd, 1) := by decide +kernel
theorem dX6_leave_46 : decode cX6_leave 46 = .ok (.iaload, 1) := by decide +kernel
theorem dX6_leave_47 : decode cX6_leave 47 = .ok (.iastore, 1) := by decide +kernel
theorem dX6_leave_48 : decode cX6_leave 48 = .ok (.iinc 2 1, 3) := by decide +kernel
theorem dX6_leave_51 : decode cX6_leave 51 = .ok (.goto (-39), 3) := by decide +kernel
theorem dX6_leave_54 : decode cX6_leave 54 = .ok (.return_, 1) := by decide +kernel
theorem dX6_lay_0 : decode cX6_lay 0 = .ok (.aload_n 0, 1) := by decide +kernel
theorem dX6_lay_1 : decode cX6_lay 1 = .ok (.getfield 40, 3) := by decide +kernel
theorem dX6_lay_4 : decode cX6_lay 4 = .ok (.aload_n 0, 1) := by decide +kernel
theorem dX6_lay_5 : decode cX6_lay 5 = .ok (.getfield 43, 3) := by decide +kernel
theorem dX6_lay_8 : decode cX6_lay 8 = .ok (.iload_n 1, 1) := by decide +kernel
theorem dX6_lay_9 : decode cX6_lay 9 = .ok (.iaload, 1) := by decide +kernel
theorem dX6_lay_10 : decode cX6_lay 10 = .ok (.aload_n 0, 1) := by decide +kernel
theorem dX6_lay_11 : decode cX6_lay 11 = .ok (.getfield 46, 3) := by decide +kernel
theorem dX6_lay_14 : decode cX6_lay 14 = .ok (.iload_n 1, 1) := by decide +kernel
theorem dX6_lay_15 : decode cX6_lay 15 = .ok (.iaload, 1) := by decide +kernel
theorem dX6_lay_16 : decode cX6_lay 16 = .ok (.iastore, 1) := by decide +kernel
theorem dX6_lay_17 : decode cX6_lay 17 = .ok (.aload_n 0, 1) := by decide +kernel
theorem dX6_lay_18 : decode cX6_lay 18 = .ok (.iload_n 1, 1) := by decide +kernel
theorem dX6_lay_19 : decode cX6_lay 19 = .ok (.invokevirtual 174, 3) := by decide +kernel
theorem dX6_lay_22 : decode cX6_lay 22 = .ok (.return_, 1) := by decide +kernel
theorem dX6_reads_0 : decode cX6_reads 0 = .ok (.aload_n 0, 1) := by decide +kernel
theorem dX6_reads_1 : decode cX6_reads 1 = .ok (.iload_n 1, 1) := by decide +kernel
theorem dX6_reads_2 : decode cX6_reads 2 = .ok (.invokevirtual 177, 3) := by decide +kernel
theorem dX6_reads_5 : decode cX6_reads 5 = .ok (.istore_n 2, 1) := by decide +kernel
theorem dX6_reads_6 : decode cX6_reads 6 = .ok (.iload_n 2, 1) := by decide +kernel
theorem dX6_reads_7 : decode cX6_reads 7 = .ok (.iconst (-1), 1) := by decide +kernel
theorem dX6_reads_8 : decode cX6_reads 8 = .ok (.if_icmp .ne 12, 3) := by decide +kernel
theorem dX6_reads_11 : decode cX6_reads 11 = .ok (.aload_n 0, 1) := by decide +kernel
theorem dX6_reads_12 : decode cX6_reads 12 = .ok (.getfield 40, 3) := by decide +kernel
theorem dX6_reads_15 : decode cX6_reads 15 = .ok (.iload_n 1, 1) := by decide +kernel
theorem dX6_reads_16 : decode cX6_reads 16 = .ok (.iaload, 1) := by decide +kernel
theorem dX6_reads_17 : decode cX6_reads 17 = .ok (.goto 9, 3) := by decide +kernel
theorem dX6_reads_20 : decode cX6_reads 20 = .ok (.aload_n 0, 1) := by decide +kernel
theorem dX6_reads_21 : decode cX6_reads 21 = .ok (.getfield 46, 3) := by decide +kernel
theorem dX6_reads_24 : decode cX6_reads 24 = .ok (.iload_n 2, 1) := by decide +kernel
theorem dX6_reads_25 : decode cX6_reads 25 = .ok (.iaload, 1) := by decide +kernel
theorem dX6_reads_26 : decode cX6_reads 26 = .ok (.ireturn, 1) := by decide +kernel
theorem dX6_written_0 : decode cX6_written 0 = .ok (.aload_n 0, 1) := by decide +kernel
theorem dX6_written_1 : decode cX6_written 1 = .ok (.iload_n 1, 1) := by decide +kernel
theorem dX6_written_2 : decode cX6_written 2 = .ok (.invokevirtual 177, 3) := by decide +kernel
theorem dX6_written_5 : decode cX6_written 5 = .ok (.istore_n 3, 1) := by decide +kernel
theorem dX6_written_6 : decode cX6_written 6 = .ok (.iload_n 3, 1) := by decide +kernel
theorem dX6_written_7 : decode cX6_written 7 = .ok (.iconst (-1), 1) := by decide +kernel
theorem dX6_written_8 : decode cX6_written 8 = .ok (.if_icmp .eq 11, 3) := by decide +kernel
theorem dX6_written_11 : decode cX6_written 11 = .ok (.aload_n 0, 1) := by decide +kernel
theorem dX6_written_12 : decode cX6_written 12 = .ok (.getfield 46, 3) := by decide +kernel
theorem dX6_written_15 : decode cX6_written 15 = .ok (.iload_n 3, 1) := by decide +kernel
theorem dX6_written_16 : decode cX6_written 16 = .ok (.iload_n 2, 1) := by decide +kernel
theorem dX6_written_17 : decode cX6_written 17 = .ok (.iastore, 1) := by decide +kernel
theorem dX6_written_18 : decode cX6_written 18 = .ok (.return_, 1) := by decide +kernel
theorem dX6_written_19 : decode cX6_written 19 = .ok (.aload_n 0, 1) := by decide +kernel
theorem dX6_written_20 : decode cX6_written 20 = .ok (.getfield 171, 3) := by decide +kernel
theorem dX6_written_23 : decode cX6_written 23 = .ok (.bipush 6, 2) := by decide +kernel
theorem dX6_written_25 : decode cX6_written 25 = .ok (.if_icmp .ne 8, 3) := by decide +kernel
theorem dX6_written_28 : decode cX6_written 28 = .ok (.aload_n 0, 1) := by decide +kernel
theorem dX6_written_29 : decode cX6_written 29 = .ok (.iconst 0, 1) := by decide +kernel
theorem dX6_written_30 : decode cX6_written 30 = .ok (.invokevirtual 180, 3) := by decide +kernel
theorem dX6_written_33 : decode cX6_written 33 = .ok (.aload_n 0, 1) := by decide +kernel
theorem dX6_written_34 : decode cX6_written 34 = .ok (.getfield 43, 3) := by decide +kernel
theorem dX6_written_37 : decode cX6_written 37 = .ok (.aload_n 0, 1) := by decide +kernel
theorem dX6_written_38 : decode cX6_written 38 = .ok (.getfield 171, 3) := by decide +kernel
theorem dX6_written_41 : decode cX6_written 41 = .ok (.iload_n 1, 1) := by decide +kernel
theorem dX6_written_42 : decode cX6_written 42 = .ok (.iastore, 1) := by decide +kernel
theorem dX6_written_43 : decode cX6_written 43 = .ok (.aload_n 0, 1) := by decide +kernel
theorem dX6_written_44 : decode cX6_written 44 = .ok (.getfield 46, 3) := by decide +kernel
theorem dX6_written_47 : decode cX6_written 47 = .ok (.aload_n 0, 1) := by decide +kernel
theorem dX6_written_48 : decode cX6_written 48 = .ok (.getfield 171, 3) := by decide +kernel
theorem dX6_written_51 : decode cX6_written 51 = .ok (.iload_n 2, 1) := by decide +kernel
theorem dX6_written_52 : decode cX6_written 52 = .ok (.iastore, 1) := by decide +kernel
theorem dX6_written_53 : decode cX6_written 53 = .ok (.aload_n 0, 1) := by decide +kernel
theorem dX6_written_54 : decode cX6_written 54 = .ok (.dup, 1) := by decide +kernel
theorem dX6_written_55 : decode cX6_written 55 = .ok (.getfield 171, 3) := by decide +kernel
theorem dX6_written_58 : decode cX6_written 58 = .ok (.iconst 1, 1) := by decide +kernel
theorem dX6_written_59 : decode cX6_written 59 = .ok (.iadd, 1) := by decide +kernel
theorem dX6_written_60 : decode cX6_written 60 = .ok (.putfield 171, 3) := by decide +kernel
theorem dX6_written_63 : decode cX6_written 63 = .ok (.return_, 1) := by decide +kernel
theorem dX6_through_0 : decode cX6_through 0 = .ok (.aload_n 0, 1) := by decide +kernel
theorem dX6_through_1 : decode cX6_through 1 = .ok (.iload_n 1, 1) := by decide +kernel
theorem dX6_through_2 : decode cX6_through 2 = .ok (.invokevirtual 177, 3) := by decide +kernel
theorem dX6_through_5 : decode cX6_through 5 = .ok (.istore_n 3, 1) := by decide +kernel
theorem dX6_through_6 : decode cX6_through 6 = .ok (.iload_n 3, 1) := by decide +kernel
theorem dX6_through_7 : decode cX6_through 7 = .ok (.iconst (-1), 1) := by decide +kernel
theorem dX6_through_8 : decode cX6_through 8 = .ok (.if_icmp .eq 8, 3) := by decide +kernel
theorem dX6_through_11 : decode cX6_through 11 = .ok (.aload_n 0, 1) := by decide +kernel
theorem dX6_through_12 : decode cX6_through 12 = .ok (.iload_n 3, 1) := by decide +kernel
theorem dX6_through_13 : decode cX6_through 13 = .ok (.invokevirtual 174, 3) := by decide +kernel
theorem dX6_through_16 : decode cX6_through 16 = .ok (.aload_n 0, 1) := by decide +kernel
theorem dX6_through_17 : decode cX6_through 17 = .ok (.getfield 40, 3) := by decide +kernel
theorem dX6_through_20 : decode cX6_through 20 = .ok (.iload_n 1, 1) := by decide +kernel
theorem dX6_through_21 : decode cX6_through 21 = .ok (.iload_n 2, 1) := by decide +kernel
theorem dX6_through_22 : decode cX6_through 22 = .ok (.iastore, 1) := by decide +kernel
theorem dX6_through_23 : decode cX6_through 23 = .ok (.return_, 1) := by decide +kernel
theorem dX6_three_0 : decode cX6_three 0 = .ok (.aload_n 0, 1) := by decide +kernel
theorem dX6_three_1 : decode cX6_three 1 = .ok (.iconst 3, 1) := by decide +kernel
theorem dX6_three_2 : decode cX6_three 2 = .ok (.putfield 125, 3) := by decide +kernel
theorem dX6_three_5 : decode cX6_three 5 = .ok (.aload_n 0, 1) := by decide +kernel
theorem dX6_three_6 : decode cX6_three 6 = .ok (.getfield 34, 3) := by decide +kernel
theorem dX6_three_9 : decode cX6_three 9 = .ok (.iconst 0, 1) := by decide +kernel
theorem dX6_three_10 : decode cX6_three 10 = .ok (.iload_n 1, 1) := by decide +kernel
theorem dX6_three_11 : decode cX6_three 11 = .ok (.iastore, 1) := by decide +kernel
theorem dX6_three_12 : decode cX6_three 12 = .ok (.aload_n 0, 1) := by decide +kernel
theorem dX6_three_13 : decode cX6_three 13 = .ok (.getfield 34, 3) := by decide +kernel
theorem dX6_three_16 : decode cX6_three 16 = .ok (.iconst 1, 1) := by decide +kernel
theorem dX6_three_17 : decode cX6_three 17 = .ok (.iload_n 2, 1) := by decide +kernel
theorem dX6_three_18 : decode cX6_three 18 = .ok (.iastore, 1) := by decide +kernel
theorem dX6_three_19 : decode cX6_three 19 = .ok (.aload_n 0, 1) := by decide +kernel
theorem dX6_three_20 : decode cX6_three 20 = .ok (.getfield 34, 3) := by decide +kernel
theorem dX6_three_23 : decode cX6_three 23 = .ok (.iconst 2, 1) := by decide +kernel
theorem dX6_three_24 : decode cX6_three 24 = .ok (.iload_n 3, 1) := by decide +kernel
theorem dX6_three_25 : decode cX6_three 25 = .ok (.iastore, 1) := by decide +kernel
theorem dX6_three_26 : decode cX6_three 26 = .ok (.return_, 1) := by decide +kernel
theorem dX6_number_0 : decode cX6_number 0 = .ok (.aload_n 0, 1) := by decide +kernel
theorem dX6_number_1 : decode cX6_number 1 = .ok (.bipush 6, 2) := by decide +kernel
theorem dX6_number_3 : decode cX6_number 3 = .ok (.putfield 125, 3) := by decide +kernel
theorem dX6_number_6 : decode cX6_number 6 = .ok (.aload_n 0, 1) := by decide +kernel
theorem dX6_number_7 : decode cX6_number 7 = .ok (.getfield 34, 3) := by decide +kernel
theorem dX6_number_10 : decode cX6_number 10 = .ok (.iconst 0, 1) := by decide +kernel
theorem dX6_number_11 : decode cX6_number 11 = .ok (.bipush 70, 2) := by decide +kernel
theorem dX6_number_13 : decode cX6_number 13 = .ok (.iastore, 1) := by decide +kernel
theorem dX6_number_14 : decode cX6_number 14 = .ok (.aload_n 0, 1) := by decide +kernel
theorem dX6_number_15 : decode cX6_number 15 = .ok (.getfield 34, 3) := by decide +kernel
theorem dX6_number_18 : decode cX6_number 18 = .ok (.iconst 1, 1) := by decide +kernel
theorem dX6_number_19 : decode cX6_number 19 = .ok (.iload_n 1, 1) := by decide +kernel
theorem dX6_number_20 : decode cX6_number 20 = .ok (.iastore, 1) := by decide +kernel
theorem dX6_number_21 : decode cX6_number 21 = .ok (.iconst 0, 1) := by decide +kernel
theorem dX6_number_22 : decode cX6_number 22 = .ok (.istore_n 3, 1) := by decide +kernel
theorem dX6_number_23 : decode cX6_number 23 = .ok (.iload_n 3, 1) := by decide +kernel
theorem dX6_number_24 : decode cX6_number 24 = .ok (.iconst 4, 1) := by decide +kernel
theorem dX6_number_25 : decode cX6_number 25 = .ok (.if_icmp .ge 30, 3) := by decide +kernel
theorem dX6_number_28 : decode cX6_number 28 = .ok (.aload_n 0, 1) := by decide +kernel
theorem dX6_number_29 : decode cX6_number 29 = .ok (.getfield 34, 3) := by decide +kernel
theorem dX6_number_32 : decode cX6_number 32 = .ok (.iconst 2, 1) := by decide +kernel
theorem dX6_number_33 : decode cX6_number 33 = .ok (.iload_n 3, 1) := by decide +kernel
theorem dX6_number_34 : decode cX6_number 34 = .ok (.iadd, 1) := by decide +kernel
theorem dX6_number_35 : decode cX6_number 35 = .ok (.iload_n 2, 1) := by decide +kernel
theorem dX6_number_36 : decode cX6_number 36 = .ok (.bipush 24, 2) := by decide +kernel
theorem dX6_number_38 : decode cX6_number 38 = .ok (.bipush 8, 2) := by decide +kernel
theorem dX6_number_40 : decode cX6_number 40 = .ok (.iload_n 3, 1) := by decide +kernel
theorem dX6_number_41 : decode cX6_number 41 = .ok (.imul, 1) := by decide +kernel
theorem dX6_number_42 : decode cX6_number 42 = .ok (.isub, 1) := by decide +kernel
theorem dX6_number_43 : decode cX6_number 43 = .ok (.iushr, 1) := by decide +kernel
theorem dX6_number_44 : decode cX6_number 44 = .ok (.sipush 255, 3) := by decide +kernel
theorem dX6_number_47 : decode cX6_number 47 = .ok (.iand, 1) := by decide +kernel
theorem dX6_number_48 : decode cX6_number 48 = .ok (.iastore, 1) := by decide +kernel
theorem dX6_number_49 : decode cX6_number 49 = .ok (.iinc 3 1, 3) := by decide +kernel
theorem dX6_number_52 : decode cX6_number 52 = .ok (.goto (-29), 3) := by decide +kernel
theorem dX6_number_55 : decode cX6_number 55 = .ok (.return_, 1) := by decide +kernel
theorem dX6_lastOf_0 : decode cX6_lastOf 0 = .ok (.iload_n 0, 1) := by decide +kernel
theorem dX6_lastOf_1 : decode cX6_lastOf 1 = .ok (.iconst 3, 1) := by decide +kernel
theorem dX6_lastOf_2 : decode cX6_lastOf 2 = .ok (.if_icmp .ne 7, 3) := by decide +kernel
theorem dX6_lastOf_5 : decode cX6_lastOf 5 = .ok (.iconst 0, 1) := by decide +kernel
theorem dX6_lastOf_6 : decode cX6_lastOf 6 = .ok (.goto 8, 3) := by decide +kernel
theorem dX6_lastOf_9 : decode cX6_lastOf 9 = .ok (.iload_n 1, 1) := by decide +kernel
theorem dX6_lastOf_10 : decode cX6_lastOf 10 = .ok (.iload_n 2, 1) := by decide +kernel
theorem dX6_lastOf_11 : decode cX6_lastOf 11 = .ok (.iadd, 1) := by decide +kernel
theorem dX6_lastOf_12 : decode cX6_lastOf 12 = .ok (.iconst 1, 1) := by decide +kernel
theorem dX6_lastOf_13 : decode cX6_lastOf 13 = .ok (.isub, 1) := by decide +kernel
theorem dX6_lastOf_14 : decode cX6_lastOf 14 = .ok (.ireturn, 1) := by decide +kernel
theorem dX6_done_0 : decode cX6_done 0 = .ok (.aload_n 0, 1) := by decide +kernel
theorem dX6_done_1 : decode cX6_done 1 = .ok (.iconst 5, 1) := by decide +kernel
theorem dX6_done_2 : decode cX6_done 2 = .ok (.putfield 125, 3) := by decide +kernel
theorem dX6_done_5 : decode cX6_done 5 = .ok (.aload_n 0, 1) := by decide +kernel
theorem dX6_done_6 : decode cX6_done 6 = .ok (.getfield 34, 3) := by decide +kernel
theorem dX6_done_9 : decode cX6_done 9 = .ok (.iconst 0, 1) := by decide +kernel
theorem dX6_done_10 : decode cX6_done 10 = .ok (.bipush 39, 2) := by decide +kernel
theorem dX6_done_12 : decode cX6_done 12 = .ok (.iastore, 1) := by decide +kernel
theorem dX6_done_13 : decode cX6_done 13 = .ok (.aload_n 0, 1) := by decide +kernel
theorem dX6_done_14 : decode cX6_done 14 = .ok (.getfield 34, 3) := by decide +kernel
theorem dX6_done_17 : decode cX6_done 17 = .ok (.iconst 1, 1) := by decide +kernel
theorem dX6_done_18 : decode cX6_done 18 = .ok (.aload_n 0, 1) := by decide +kernel
theorem dX6_done_19 : decode cX6_done 19 = .ok (.getfield 52, 3) := by decide +kernel
theorem dX6_done_22 : decode cX6_done 22 = .ok (.iload_n 1, 1) := by decide +kernel
theorem dX6_done_23 : decode cX6_done 23 = .ok (.iaload, 1) := by decide +kernel
theorem dX6_done_24 : decode cX6_done 24 = .ok (.iastore, 1) := by decide +kernel
theorem dX6_done_25 : decode cX6_done 25 = .ok (.aload_n 0, 1) := by decide +kernel
theorem dX6_done_26 : decode cX6_done 26 = .ok (.getfield 34, 3) := by decide +kernel
theorem dX6_done_29 : decode cX6_done 29 = .ok (.iconst 2, 1) := by decide +kernel
theorem dX6_done_30 : decode cX6_done 30 = .ok (.iload_n 1, 1) := by decide +kernel
theorem dX6_done_31 : decode cX6_done 31 = .ok (.iastore, 1) := by decide +kernel
theorem dX6_done_32 : decode cX6_done 32 = .ok (.aload_n 0, 1) := by decide +kernel
theorem dX6_done_33 : decode cX6_done 33 = .ok (.getfield 34, 3) := by decide +kernel
theorem dX6_done_36 : decode cX6_done 36 = .ok (.iconst 3, 1) := by decide +kernel
theorem dX6_done_37 : decode cX6_done 37 = .ok (.aload_n 0, 1) := by decide +kernel
theorem dX6_done_38 : decode cX6_done 38 = .ok (.getfield 55, 3) := by decide +kernel
theorem dX6_done_41 : decode cX6_done 41 = .ok (.iload_n 1, 1) := by decide +kernel
theorem dX6_done_42 : decode cX6_done 42 = .ok (.iaload, 1) := by decide +kernel
theorem dX6_done_43 : decode cX6_done 43 = .ok (.iastore, 1) := by decide +kernel
theorem dX6_done_44 : decode cX6_done 44 = .ok (.aload_n 0, 1) := by decide +kernel
theorem dX6_done_45 : decode cX6_done 45 = .ok (.getfield 34, 3) := by decide +kernel
theorem dX6_done_48 : decode cX6_done 48 = .ok (.iconst 4, 1) := by decide +kernel
theorem dX6_done_49 : decode cX6_done 49 = .ok (.aload_n 0, 1) := by decide +kernel
theorem dX6_done_50 : decode cX6_done 50 = .ok (.getfield 58, 3) := by decide +kernel
theorem dX6_done_53 : decode cX6_done 53 = .ok (.iload_n 1, 1) := by decide +kernel
theorem dX6_done_54 : decode cX6_done 54 = .ok (.iaload, 1) := by decide +kernel
theorem dX6_done_55 : decode cX6_done 55 = .ok (.iastore, 1) := by decide +kernel
theorem dX6_done_56 : decode cX6_done 56 = .ok (.aload_n 0, 1) := by decide +kernel
theorem dX6_done_57 : decode cX6_done 57 = .ok (.invokevirtual 183, 3) := by decide +kernel
theorem dX6_done_60 : decode cX6_done 60 = .ok (.ifCond .ne 5, 3) := by decide +kernel
theorem dX6_done_63 : decode cX6_done 63 = .ok (.iconst 1, 1) := by decide +kernel
theorem dX6_done_64 : decode cX6_done 64 = .ok (.ireturn, 1) := by decide +kernel
theorem dX6_done_65 : decode cX6_done 65 = .ok (.aload_n 0, 1) := by decide +kernel
theorem dX6_done_66 : decode cX6_done 66 = .ok (.getfield 52, 3) := by decide +kernel
theorem dX6_done_69 : decode cX6_done 69 = .ok (.iload_n 1, 1) := by decide +kernel
theorem dX6_done_70 : decode cX6_done 70 = .ok (.iaload, 1) := by decide +kernel
theorem dX6_done_71 : decode cX6_done 71 = .ok (.aload_n 0, 1) := by decide +kernel
theorem dX6_done_72 : decode cX6_done 72 = .ok (.getfield 55, 3) := by decide +kernel
theorem dX6_done_75 : decode cX6_done 75 = .ok (.iload_n 1, 1) := by decide +kernel
theorem dX6_done_76 : decode cX6_done 76 = .ok (.iaload, 1) := by decide +kernel
theorem dX6_done_77 : decode cX6_done 77 = .ok (.aload_n 0, 1) := by decide +kernel
theorem dX6_done_78 : decode cX6_done 78 = .ok (.getfield 58, 3) := by decide +kernel
theorem dX6_done_81 : decode cX6_done 81 = .ok (.iload_n 1, 1) := by decide +kernel
theorem dX6_done_82 : decode cX6_done 82 = .ok (.iaload, 1) := by decide +kernel
theorem dX6_done_83 : decode cX6_done 83 = .ok (.invokestatic 187, 3) := by decide +kernel
theorem dX6_done_86 : decode cX6_done 86 = .ok (.bipush 31, 2) := by decide +kernel
theorem dX6_done_88 : decode cX6_done 88 = .ok (.if_icmp .le 25, 3) := by decide +kernel
theorem dX6_done_91 : decode cX6_done 91 = .ok (.aload_n 0, 1) := by decide +kernel
theorem dX6_done_92 : decode cX6_done 92 = .ok (.sipush 161, 3) := by decide +kernel
theorem dX6_done_95 : decode cX6_done 95 = .ok (.iload_n 1, 1) := by decide +kernel
theorem dX6_done_96 : decode cX6_done 96 = .ok (.iconst 2, 1) := by decide +kernel
theorem dX6_done_97 : decode cX6_done 97 = .ok (.invokevirtual 190, 3) := by decide +kernel
theorem dX6_done_100 : decode cX6_done 100 = .ok (.aload_n 0, 1) := by decide +kernel
theorem dX6_done_101 : decode cX6_done 101 = .ok (.invokevirtual 183, 3) := by decide +kernel
theorem dX6_done_104 : decode cX6_done 104 = .ok (.ifCond .eq 7, 3) := by decide +kernel
theorem dX6_done_107 : decode cX6_done 107 = .ok (.iconst 2, 1) := by decide +kernel
theorem dX6_done_108 : decode cX6_done 108 = .ok (.goto 4, 3) := by decide +kernel
theorem dX6_done_111 : decode cX6_done 111 = .ok (.iconst 1, 1) := by decide +kernel
theorem dX6_done_112 : decode cX6_done 112 = .ok (.ireturn, 1) := by decide +kernel
theorem dX6_done_113 : decode cX6_done 113 = .ok (.iconst 0, 1) := by decide +kernel
theorem dX6_done_114 : decode cX6_done 114 = .ok (.istore_n 2, 1) := by decide +kernel
theorem dX6_done_115 : decode cX6_done 115 = .ok (.iload_n 2, 1) := by decide +kernel
theorem dX6_done_116 : decode cX6_done 116 = .ok (.aload_n 0, 1) := by decide +kernel
theorem dX6_done_117 : decode cX6_done 117 = .ok (.getfield 58, 3) := by decide +kernel
theorem dX6_done_120 : decode cX6_done 120 = .ok (.iload_n 1, 1) := by decide +kernel
theorem dX6_done_121 : decode cX6_done 121 = .ok (.iaload, 1) := by decide +kernel
theorem dX6_done_122 : decode cX6_done 122 = .ok (.if_icmp .ge 118, 3) := by decide +kernel
theorem dX6_done_125 : decode cX6_done 125 = .ok (.aload_n 0, 1) := by decide +kernel
theorem dX6_done_126 : decode cX6_done 126 = .ok (.getfield 55, 3) := by decide +kernel
theorem dX6_done_129 : decode cX6_done 129 = .ok (.iload_n 1, 1) := by decide +kernel
theorem dX6_done_130 : decode cX6_done 130 = .ok (.iaload, 1) := by decide +kernel
theorem dX6_done_131 : decode cX6_done 131 = .ok (.iload_n 2, 1) := by decide +kernel
theorem dX6_done_132 : decode cX6_done 132 = .ok (.iadd, 1) := by decide +kernel
theorem dX6_done_133 : decode cX6_done 133 = .ok (.istore_n 3, 1) := by decide +kernel
theorem dX6_done_134 : decode cX6_done 134 = .ok (.aload_n 0, 1) := by decide +kernel
theorem dX6_done_135 : decode cX6_done 135 = .ok (.getfield 52, 3) := by decide +kernel
theorem dX6_done_138 : decode cX6_done 138 = .ok (.iload_n 1, 1) := by decide +kernel
theorem dX6_done_139 : decode cX6_done 139 = .ok (.iaload, 1) := by decide +kernel
theorem dX6_done_140 : decode cX6_done 140 = .ok (.ifCond .ne 18, 3) := by decide +kernel
theorem dX6_done_143 : decode cX6_done 143 = .ok (.aload_n 0, 1) := by decide +kernel
theorem dX6_done_144 : decode cX6_done 144 = .ok (.getfield 61, 3) := by decide +kernel
theorem dX6_done_147 : decode cX6_done 147 = .ok (.iconst 4, 1) := by decide +kernel
theorem dX6_done_148 : decode cX6_done 148 = .ok (.iload_n 1, 1) := by decide +kernel
theorem dX6_done_149 : decode cX6_done 149 = .ok (.imul, 1) := by decide +kernel
theorem dX6_done_150 : decode cX6_done 150 = .ok (.iload_n 2, 1) := by decide +kernel
theorem dX6_done_151 : decode cX6_done 151 = .ok (.iadd, 1) := by decide +kernel
theorem dX6_done_152 : decode cX6_done 152 = .ok (.aload_n 0, 1) := by decide +kernel
theorem dX6_done_153 : decode cX6_done 153 = .ok (.iload_n 3, 1) := by decide +kernel
theorem dX6_done_154 : decode cX6_done 154 = .ok (.invokevirtual 194, 3) := by decide +kernel
theorem dX6_done_157 : decode cX6_done 157 = .ok (.iastore, 1) := by decide +kernel
theorem dX6_done_158 : decode cX6_done 158 = .ok (.aload_n 0, 1) := by decide +kernel
theorem dX6_done_159 : decode cX6_done 159 = .ok (.iload_n 1, 1) := by decide +kernel
theorem dX6_done_160 : decode cX6_done 160 = .ok (.aload_n 0, 1) := by decide +kernel
theorem dX6_done_161 : decode cX6_done 161 = .ok (.getfield 61, 3) := by decide +kernel
theorem dX6_done_164 : decode cX6_done 164 = .ok (.iconst 4, 1) := by decide +kernel
theorem dX6_done_165 : decode cX6_done 165 = .ok (.iload_n 1, 1) := by decide +kernel
theorem dX6_done_166 : decode cX6_done 166 = .ok (.imul, 1) := by decide +kernel
theorem dX6_done_167 : decode cX6_done 167 = .ok (.iload_n 2, 1) := by decide +kernel
theorem dX6_done_168 : decode cX6_done 168 = .ok (.iadd, 1) := by decide +kernel
theorem dX6_done_169 : decode cX6_done 169 = .ok (.iaload, 1) := by decide +kernel
theorem dX6_done_170 : decode cX6_done 170 = .ok (.invokevirtual 197, 3) := by decide +kernel
theorem dX6_done_173 : decode cX6_done 173 = .ok (.aload_n 0, 1) := by decide +kernel
theorem dX6_done_174 : decode cX6_done 174 = .ok (.invokevirtual 183, 3) := by decide +kernel
theorem dX6_done_177 : decode cX6_done 177 = .ok (.ifCond .ne 5, 3) := by decide +kernel
theorem dX6_done_180 : decode cX6_done 180 = .ok (.iconst 1, 1) := by decide +kernel
theorem dX6_done_181 : decode cX6_done 181 = .ok (.ireturn, 1) := by decide +kernel
theorem dX6_done_182 : decode cX6_done 182 = .ok (.aload_n 0, 1) := by decide +kernel
theorem dX6_done_183 : decode cX6_done 183 = .ok (.getfield 52, 3) := by decide +kernel
theorem dX6_done_186 : decode cX6_done 186 = .ok (.iload_n 1, 1) := by decide +kernel
theorem dX6_done_187 : decode cX6_done 187 = .ok (.iaload, 1) := by decide +kernel
theorem dX6_done_188 : decode cX6_done 188 = .ok (.iconst 2, 1) := by decide +kernel
theorem dX6_done_189 : decode cX6_done 189 = .ok (.if_icmp .ne 21, 3) := by decide +kernel
theorem dX6_done_192 : decode cX6_done 192 = .ok (.aload_n 0, 1) := by decide +kernel
theorem dX6_done_193 : decode cX6_done 193 = .ok (.iload_n 3, 1) := by decide +kernel
theorem dX6_done_194 : decode cX6_done 194 = .ok (.aload_n 0, 1) := by decide +kernel
theorem dX6_done_195 : decode cX6_done 195 = .ok (.getfield 61, 3) := by decide +kernel
theorem dX6_done_198 : decode cX6_done 198 = .ok (.iconst 4, 1) := by decide +kernel
theorem dX6_done_199 : decode cX6_done 199 = .ok (.iload_n 1, 1) := by decide +kernel
theorem dX6_done_200 : decode cX6_done 200 = .ok (.imul, 1) := by decide +kernel
theorem dX6_done_201 : decode cX6_done 201 = .ok (.iload_n 2, 1) := by decide +kernel
theorem dX6_done_202 : decode cX6_done 202 = .ok (.iadd, 1) := by decide +kernel
theorem dX6_done_203 : decode cX6_done 203 = .ok (.iaload, 1) := by decide +kernel
theorem dX6_done_204 : decode cX6_done 204 = .ok (.invokevirtual 201, 3) := by decide +kernel
theorem dX6_done_207 : decode cX6_done 207 = .ok (.goto 27, 3) := by decide +kernel
theorem dX6_done_210 : decode cX6_done 210 = .ok (.aload_n 0, 1) := by decide +kernel
theorem dX6_done_211 : decode cX6_done 211 = .ok (.getfield 52, 3) := by decide +kernel
theorem dX6_done_214 : decode cX6_done 214 = .ok (.iload_n 1, 1) := by decide +kernel
theorem dX6_done_215 : decode cX6_done 215 = .ok (.iaload, 1) := by decide +kernel
theorem dX6_done_216 : decode cX6_done 216 = .ok (.ifCond .eq 18, 3) := by decide +kernel
theorem dX6_done_219 : decode cX6_done 219 = .ok (.aload_n 0, 1) := by decide +kernel
theorem dX6_done_220 : decode cX6_done 220 = .ok (.iload_n 3, 1) := by decide +kernel
theorem dX6_done_221 : decode cX6_done 221 = .ok (.aload_n 0, 1) := by decide +kernel
theorem dX6_done_222 : decode cX6_done 222 = .ok (.getfield 61, 3) := by decide +kernel
theorem dX6_done_225 : decode cX6_done 225 = .ok (.iconst 4, 1) := by decide +kernel
theorem dX6_done_226 : decode cX6_done 226 = .ok (.iload_n 1, 1) := by decide +kernel
theorem dX6_done_227 : decode cX6_done 227 = .ok (.imul, 1) := by decide +kernel
theorem dX6_done_228 : decode cX6_done 228 = .ok (.iload_n 2, 1) := by decide +kernel
theorem dX6_done_229 : decode cX6_done 229 = .ok (.iadd, 1) := by decide +kernel
theorem dX6_done_230 : decode cX6_done 230 = .ok (.iaload, 1) := by decide +kernel
theorem dX6_done_231 : decode cX6_done 231 = .ok (.invokevirtual 204, 3) := by decide +kernel
theorem dX6_done_234 : decode cX6_done 234 = .ok (.iinc 2 1, 3) := by decide +kernel
theorem dX6_done_237 : decode cX6_done 237 = .ok (.goto (-122), 3) := by decide +kernel
theorem dX6_done_240 : decode cX6_done 240 = .ok (.aload_n 0, 1) := by decide +kernel
theorem dX6_done_241 : decode cX6_done 241 = .ok (.getfield 52, 3) := by decide +kernel
theorem dX6_done_244 : decode cX6_done 244 = .ok (.iload_n 1, 1) := by decide +kernel
theorem dX6_done_245 : decode cX6_done 245 = .ok (.iaload, 1) := by decide +kernel
theorem dX6_done_246 : decode cX6_done 246 = .ok (.iconst 3, 1) := by decide +kernel
theorem dX6_done_247 : decode cX6_done 247 = .ok (.if_icmp .ne 18, 3) := by decide +kernel
theorem dX6_done_250 : decode cX6_done 250 = .ok (.aload_n 0, 1) := by decide +kernel
theorem dX6_done_251 : decode cX6_done 251 = .ok (.getfield 171, 3) := by decide +kernel
theorem dX6_done_254 : decode cX6_done 254 = .ok (.ifCond .le 11, 3) := by decide +kernel
theorem dX6_done_257 : decode cX6_done 257 = .ok (.aload_n 0, 1) := by decide +kernel
theorem dX6_done_258 : decode cX6_done 258 = .ok (.iconst 0, 1) := by decide +kernel
theorem dX6_done_259 : decode cX6_done 259 = .ok (.invokevirtual 180, 3) := by decide +kernel
theorem dX6_done_262 : decode cX6_done 262 = .ok (.goto (-22), 3) := by decide +kernel
theorem dX6_done_265 : decode cX6_done 265 = .ok (.aload_n 0, 1) := by decide +kernel
theorem dX6_done_266 : decode cX6_done 266 = .ok (.sipush 161, 3) := by decide +kernel
theorem dX6_done_269 : decode cX6_done 269 = .ok (.iload_n 1, 1) := by decide +kernel
theorem dX6_done_270 : decode cX6_done 270 = .ok (.iconst 0, 1) := by decide +kernel
theorem dX6_done_271 : decode cX6_done 271 = .ok (.invokevirtual 190, 3) := by decide +kernel
theorem dX6_done_274 : decode cX6_done 274 = .ok (.aload_n 0, 1) := by decide +kernel
theorem dX6_done_275 : decode cX6_done 275 = .ok (.invokevirtual 183, 3) := by decide +kernel
theorem dX6_done_278 : decode cX6_done 278 = .ok (.ifCond .eq 7, 3) := by decide +kernel
theorem dX6_done_281 : decode cX6_done 281 = .ok (.iconst 0, 1) := by decide +kernel
theorem dX6_done_282 : decode cX6_done 282 = .ok (.goto 4, 3) := by decide +kernel
theorem dX6_done_285 : decode cX6_done 285 = .ok (.iconst 1, 1) := by decide +kernel
theorem dX6_done_286 : decode cX6_done 286 = .ok (.ireturn, 1) := by decide +kernel
theorem dX6_isAhead_0 : decode cX6_isAhead 0 = .ok (.aload_n 0, 1) := by decide +kernel
theorem dX6_isAhead_1 : decode cX6_isAhead 1 = .ok (.getfield 207, 3) := by decide +kernel
theorem dX6_isAhead_4 : decode cX6_isAhead 4 = .ok (.ifCond .ne 24, 3) := by decide +kernel
theorem dX6_isAhead_7 : decode cX6_isAhead 7 = .ok (.aload_n 0, 1) := by decide +kernel
theorem dX6_isAhead_8 : decode cX6_isAhead 8 = .ok (.getfield 64, 3) := by decide +kernel
theorem dX6_isAhead_11 : decode cX6_isAhead 11 = .ok (.iload_n 1, 1) := by decide +kernel
theorem dX6_isAhead_12 : decode cX6_isAhead 12 = .ok (.iaload, 1) := by decide +kernel
theorem dX6_isAhead_13 : decode cX6_isAhead 13 = .ok (.aload_n 0, 1) := by decide +kernel
theorem dX6_isAhead_14 : decode cX6_isAhead 14 = .ok (.getfield 64, 3) := by decide +kernel
theorem dX6_isAhead_17 : decode cX6_isAhead 17 = .ok (.iload_n 2, 1) := by decide +kernel
theorem dX6_isAhead_18 : decode cX6_isAhead 18 = .ok (.iaload, 1) := by decide +kernel
theorem dX6_isAhead_19 : decode cX6_isAhead 19 = .ok (.if_icmp .ge 7, 3) := by decide +kernel
theorem dX6_isAhead_22 : decode cX6_isAhead 22 = .ok (.iconst 1, 1) := by decide +kernel
theorem dX6_isAhead_23 : decode cX6_isAhead 23 = .ok (.goto 4, 3) := by decide +kernel
theorem dX6_isAhead_26 : decode cX6_isAhead 26 = .ok (.iconst 0, 1) := by decide +kernel
theorem dX6_isAhead_27 : decode cX6_isAhead 27 = .ok (.ireturn, 1) := by decide +kernel
theorem dX6_isAhead_28 : decode cX6_isAhead 28 = .ok (.aload_n 0, 1) := by decide +kernel
theorem dX6_isAhead_29 : decode cX6_isAhead 29 = .ok (.getfield 207, 3) := by decide +kernel
theorem dX6_isAhead_32 : decode cX6_isAhead 32 = .ok (.iconst 2, 1) := by decide +kernel
theorem dX6_isAhead_33 : decode cX6_isAhead 33 = .ok (.if_icmp .ne 14, 3) := by decide +kernel
theorem dX6_isAhead_36 : decode cX6_isAhead 36 = .ok (.iload_n 1, 1) := by decide +kernel
theorem dX6_isAhead_37 : decode cX6_isAhead 37 = .ok (.iload_n 2, 1) := by decide +kernel
theorem dX6_isAhead_38 : decode cX6_isAhead 38 = .ok (.if_icmp .le 7, 3) := by decide +kernel
theorem dX6_isAhead_41 : decode cX6_isAhead 41 = .ok (.iconst 1, 1) := by decide +kernel
theorem dX6_isAhead_42 : decode cX6_isAhead 42 = .ok (.goto 4, 3) := by decide +kernel
theorem dX6_isAhead_45 : decode cX6_isAhead 45 = .ok (.iconst 0, 1) := by decide +kernel
theorem dX6_isAhead_46 : decode cX6_isAhead 46 = .ok (.ireturn, 1) := by decide +kernel
theorem dX6_isAhead_47 : decode cX6_isAhead 47 = .ok (.aload_n 0, 1) := by decide +kernel
theorem dX6_isAhead_48 : decode cX6_isAhead 48 = .ok (.getfield 55, 3) := by decide +kernel
theorem dX6_isAhead_51 : decode cX6_isAhead 51 = .ok (.iload_n 1, 1) := by decide +kernel
theorem dX6_isAhead_52 : decode cX6_isAhead 52 = .ok (.iaload, 1) := by decide +kernel
theorem dX6_isAhead_53 : decode cX6_isAhead 53 = .ok (.aload_n 0, 1) := by decide +kernel
theorem dX6_isAhead_54 : decode cX6_isAhead 54 = .ok (.getfield 210, 3) := by decide +kernel
theorem dX6_isAhead_57 : decode cX6_isAhead 57 = .ok (.if_icmp .lt 7, 3) := by decide +kernel
theorem dX6_isAhead_60 : decode cX6_isAhead 60 = .ok (.iconst 1, 1) := by decide +kernel
theorem dX6_isAhead_61 : decode cX6_isAhead 61 = .ok (.goto 4, 3) := by decide +kernel
theorem dX6_isAhead_64 : decode cX6_isAhead 64 = .ok (.iconst 0, 1) := by decide +kernel
theorem dX6_isAhead_65 : decode cX6_isAhead 65 = .ok (.istore_n 3, 1) := by decide +kernel
theorem dX6_isAhead_66 : decode cX6_isAhead 66 = .ok (.aload_n 0, 1) := by decide +kernel
theorem dX6_isAhead_67 : decode cX6_isAhead 67 = .ok (.getfield 55, 3) := by decide +kernel
theorem dX6_isAhead_70 : decode cX6_isAhead 70 = .ok (.iload_n 2, 1) := by decide +kernel
theorem dX6_isAhead_71 : decode cX6_isAhead 71 = .ok (.iaload, 1) := by decide +kernel
theorem dX6_isAhead_72 : decode cX6_isAhead 72 = .ok (.aload_n 0, 1) := by decide +kernel
theorem dX6_isAhead_73 : decode cX6_isAhead 73 = .ok (.getfield 210, 3) := by decide +kernel
theorem dX6_isAhead_76 : decode cX6_isAhead 76 = .ok (.if_icmp .lt 7, 3) := by decide +kernel
theorem dX6_isAhead_79 : decode cX6_isAhead 79 = .ok (.iconst 1, 1) := by decide +kernel
theorem dX6_isAhead_80 : decode cX6_isAhead 80 = .ok (.goto 4, 3) := by decide +kernel
theorem dX6_isAhead_83 : decode cX6_isAhead 83 = .ok (.iconst 0, 1) := by decide +kernel
theorem dX6_isAhead_84 : decode cX6_isAhead 84 = .ok (.istore 4, 2) := by decide +kernel
theorem dX6_isAhead_86 : decode cX6_isAhead 86 = .ok (.iload_n 3, 1) := by decide +kernel
theorem dX6_isAhead_87 : decode cX6_isAhead 87 = .ok (.iload 4, 2) := by decide +kernel
theorem dX6_isAhead_89 : decode cX6_isAhead 89 = .ok (.if_icmp .eq 7, 3) := by decide +kernel
theorem dX6_isAhead_92 : decode cX6_isAhead 92 = .ok (.iload_n 3, 1) := by decide +kernel
theorem dX6_isAhead_93 : decode cX6_isAhead 93 = .ok (.goto 23, 3) := by decide +kernel
theorem dX6_isAhead_96 : decode cX6_isAhead 96 = .ok (.aload_n 0, 1) := by decide +kernel
theorem dX6_isAhead_97 : decode cX6_isAhead 97 = .ok (.getfield 55, 3) := by decide +kernel
theorem dX6_isAhead_100 : decode cX6_isAhead 100 = .ok (.iload_n 1, 1) := by decide +kernel
theorem dX6_isAhead_101 : decode cX6_isAhead 101 = .ok (.iaload, 1) := by decide +kernel
theorem dX6_isAhead_102 : decode cX6_isAhead 102 = .ok (.aload_n 0, 1) := by decide +kernel
theorem dX6_isAhead_103 : decode cX6_isAhead 103 = .ok (.getfield 55, 3) := by decide +kernel
theorem dX6_isAhead_106 : decode cX6_isAhead 106 = .ok (.iload_n 2, 1) := by decide +kernel
theorem dX6_isAhead_107 : decode cX6_isAhead 107 = .ok (.iaload, 1) := by decide +kernel
theorem dX6_isAhead_108 : decode cX6_isAhead 108 = .ok (.if_icmp .ge 7, 3) := by decide +kernel
theorem dX6_isAhead_111 : decode cX6_isAhead 111 = .ok (.iconst 1, 1) := by decide +kernel
theorem dX6_isAhead_112 : decode cX6_isAhead 112 = .ok (.goto 4, 3) := by decide +kernel
theorem dX6_isAhead_115 : decode cX6_isAhead 115 = .ok (.iconst 0, 1) := by decide +kernel
theorem dX6_isAhead_116 : decode cX6_isAhead 116 = .ok (.ireturn, 1) := by decide +kernel
theorem dX6_next_0 : decode cX6_next 0 = .ok (.iconst (-1), 1) := by decide +kernel
theorem dX6_next_1 : decode cX6_next 1 = .ok (.istore_n 1, 1) := by decide +kernel
theorem dX6_next_2 : decode cX6_next 2 = .ok (.iconst 0, 1) := by decide +kernel
theorem dX6_next_3 : decode cX6_next 3 = .ok (.istore_n 2, 1) := by decide +kernel
theorem dX6_next_4 : decode cX6_next 4 = .ok (.iload_n 2, 1) := by decide +kernel
theorem dX6_next_5 : decode cX6_next 5 = .ok (.bipush 8, 2) := by decide +kernel
theorem dX6_next_7 : decode cX6_next 7 = .ok (.if_icmp .ge 35, 3) := by decide +kernel
theorem dX6_next_10 : decode cX6_next 10 = .ok (.aload_n 0, 1) := by decide +kernel
theorem dX6_next_11 : decode cX6_next 11 = .ok (.getfield 49, 3) := by decide +kernel
theorem dX6_next_14 : decode cX6_next 14 = .ok (.iload_n 2, 1) := by decide +kernel
theorem dX6_next_15 : decode cX6_next 15 = .ok (.iaload, 1) := by decide +kernel
theorem dX6_next_16 : decode cX6_next 16 = .ok (.iconst 1, 1) := by decide +kernel
theorem dX6_next_17 : decode cX6_next 17 = .ok (.if_icmp .ne 19, 3) := by decide +kernel
theorem dX6_next_20 : decode cX6_next 20 = .ok (.iload_n 1, 1) := by decide +kernel
theorem dX6_next_21 : decode cX6_next 21 = .ok (.iconst (-1), 1) := by decide +kernel
theorem dX6_next_22 : decode cX6_next 22 = .ok (.if_icmp .eq 12, 3) := by decide +kernel
theorem dX6_next_25 : decode cX6_next 25 = .ok (.aload_n 0, 1) := by decide +kernel
theorem dX6_next_26 : decode cX6_next 26 = .ok (.iload_n 2, 1) := by decide +kernel
theorem dX6_next_27 : decode cX6_next 27 = .ok (.iload_n 1, 1) := by decide +kernel
theorem dX6_next_28 : decode cX6_next 28 = .ok (.invokevirtual 213, 3) := by decide +kernel
theorem dX6_next_31 : decode cX6_next 31 = .ok (.ifCond .eq 5, 3) := by decide +kernel
theorem dX6_next_34 : decode cX6_next 34 = .ok (.iload_n 2, 1) := by decide +kernel
theorem dX6_next_35 : decode cX6_next 35 = .ok (.istore_n 1, 1) := by decide +kernel
theorem dX6_next_36 : decode cX6_next 36 = .ok (.iinc 2 1, 3) := by decide +kernel
theorem dX6_next_39 : decode cX6_next 39 = .ok (.goto (-35), 3) := by decide +kernel
theorem dX6_next_42 : decode cX6_next 42 = .ok (.iload_n 1, 1) := by decide +kernel
theorem dX6_next_43 : decode cX6_next 43 = .ok (.ireturn, 1) := by decide +kernel
theorem dX6_step_0 : decode cX6_step 0 = .ok (.aload_n 0, 1) := by decide +kernel
theorem dX6_step_1 : decode cX6_step 1 = .ok (.invokevirtual 217, 3) := by decide +kernel
theorem dX6_step_4 : decode cX6_step 4 = .ok (.istore_n 1, 1) := by decide +kernel
theorem dX6_step_5 : decode cX6_step 5 = .ok (.iload_n 1, 1) := by decide +kernel
theorem dX6_step_6 : decode cX6_step 6 = .ok (.iconst (-1), 1) := by decide +kernel
theorem dX6_step_7 : decode cX6_step 7 = .ok (.if_icmp .ne 6, 3) := by decide +kernel
theorem dX6_step_10 : decode cX6_step 10 = .ok (.bipush (-4), 2) := by decide +kernel
theorem dX6_step_12 : decode cX6_step 12 = .ok (.ireturn, 1) := by decide +kernel
theorem dX6_step_13 : decode cX6_step 13 = .ok (.aload_n 0, 1) := by decide +kernel
theorem dX6_step_14 : decode cX6_step 14 = .ok (.aload_n 0, 1) := by decide +kernel
theorem dX6_step_15 : decode cX6_step 15 = .ok (.getfield 52, 3) := by decide +kernel
theorem dX6_step_18 : decode cX6_step 18 = .ok (.iload_n 1, 1) := by decide +kernel
theorem dX6_step_19 : decode cX6_step 19 = .ok (.iaload, 1) := by decide +kernel
theorem dX6_step_20 : decode cX6_step 20 = .ok (.aload_n 0, 1) := by decide +kernel
theorem dX6_step_21 : decode cX6_step 21 = .ok (.getfield 55, 3) := by decide +kernel
theorem dX6_step_24 : decode cX6_step 24 = .ok (.iload_n 1, 1) := by decide +kernel
theorem dX6_step_25 : decode cX6_step 25 = .ok (.iaload, 1) := by decide +kernel
theorem dX6_step_26 : decode cX6_step 26 = .ok (.aload_n 0, 1) := by decide +kernel
theorem dX6_step_27 : decode cX6_step 27 = .ok (.getfield 58, 3) := by decide +kernel
theorem dX6_step_30 : decode cX6_step 30 = .ok (.iload_n 1, 1) := by decide +kernel
theorem dX6_step_31 : decode cX6_step 31 = .ok (.iaload, 1) := by decide +kernel
theorem dX6_step_32 : decode cX6_step 32 = .ok (.invokestatic 187, 3) := by decide +kernel
theorem dX6_step_35 : decode cX6_step 35 = .ok (.putfield 210, 3) := by decide +kernel
theorem dX6_step_38 : decode cX6_step 38 = .ok (.aload_n 0, 1) := by decide +kernel
theorem dX6_step_39 : decode cX6_step 39 = .ok (.getfield 67, 3) := by decide +kernel
theorem dX6_step_42 : decode cX6_step 42 = .ok (.iload_n 1, 1) := by decide +kernel
theorem dX6_step_43 : decode cX6_step 43 = .ok (.aload_n 0, 1) := by decide +kernel
theorem dX6_step_44 : decode cX6_step 44 = .ok (.iload_n 1, 1) := by decide +kernel
theorem dX6_step_45 : decode cX6_step 45 = .ok (.invokevirtual 220, 3) := by decide +kernel
theorem dX6_step_48 : decode cX6_step 48 = .ok (.iastore, 1) := by decide +kernel
theorem dX6_step_49 : decode cX6_step 49 = .ok (.aload_n 0, 1) := by decide +kernel
theorem dX6_step_50 : decode cX6_step 50 = .ok (.getfield 49, 3) := by decide +kernel
theorem dX6_step_53 : decode cX6_step 53 = .ok (.iload_n 1, 1) := by decide +kernel
theorem dX6_step_54 : decode cX6_step 54 = .ok (.iconst 2, 1) := by decide +kernel
theorem dX6_step_55 : decode cX6_step 55 = .ok (.iastore, 1) := by decide +kernel
theorem dX6_step_56 : decode cX6_step 56 = .ok (.iload_n 1, 1) := by decide +kernel
theorem dX6_step_57 : decode cX6_step 57 = .ok (.ireturn, 1) := by decide +kernel
theorem dX6_drain_0 : decode cX6_drain 0 = .ok (.iconst 0, 1) := by decide +kernel
theorem dX6_drain_1 : decode cX6_drain 1 = .ok (.istore_n 1, 1) := by decide +kernel
theorem dX6_drain_2 : decode cX6_drain 2 = .ok (.aload_n 0, 1) := by decide +kernel
theorem dX6_drain_3 : decode cX6_drain 3 = .ok (.invokevirtual 217, 3) := by decide +kernel
theorem dX6_drain_6 : decode cX6_drain 6 = .ok (.iconst (-1), 1) := by decide +kernel
theorem dX6_drain_7 : decode cX6_drain 7 = .ok (.if_icmp .eq 23, 3) := by decide +kernel
theorem dX6_drain_10 : decode cX6_drain 10 = .ok (.aload_n 0, 1) := by decide +kernel
theorem dX6_drain_11 : decode cX6_drain 11 = .ok (.invokevirtual 223, 3) := by decide +kernel
theorem dX6_drain_14 : decode cX6_drain 14 = .ok (.istore_n 2, 1) := by decide +kernel
theorem dX6_drain_15 : decode cX6_drain 15 = .ok (.iload_n 1, 1) := by decide +kernel
theorem dX6_drain_16 : decode cX6_drain 16 = .ok (.iload_n 2, 1) := by decide +kernel
theorem dX6_drain_17 : decode cX6_drain 17 = .ok (.ifCond .lt 7, 3) := by decide +kernel
theorem dX6_drain_20 : decode cX6_drain 20 = .ok (.iconst 1, 1) := by decide +kernel
theorem dX6_drain_21 : decode cX6_drain 21 = .ok (.goto 4, 3) := by decide +kernel
theorem dX6_drain_24 : decode cX6_drain 24 = .ok (.iconst 0, 1) := by decide +kernel
theorem dX6_drain_25 : decode cX6_drain 25 = .ok (.iadd, 1) := by decide +kernel
theorem dX6_drain_26 : decode cX6_drain 26 = .ok (.istore_n 1, 1) := by decide +kernel
theorem dX6_drain_27 : decode cX6_drain 27 = .ok (.goto (-25), 3) := by decide +kernel
theorem dX6_drain_30 : decode cX6_drain 30 = .ok (.iload_n 1, 1) := by decide +kernel
theorem dX6_drain_31 : decode cX6_drain 31 = .ok (.ireturn, 1) := by decide +kernel
theorem dX6_result_0 : decode cX6_result 0 = .ok (.iload_n 1, 1) := by decide +kernel
theorem dX6_result_1 : decode cX6_result 1 = .ok (.invokestatic 160, 3) := by decide +kernel
theorem dX6_result_4 : decode cX6_result 4 = .ok (.ifCond .ne 6, 3) := by decide +kernel
theorem dX6_result_7 : decode cX6_result 7 = .ok (.bipush (-2), 2) := by decide +kernel
theorem dX6_result_9 : decode cX6_result 9 = .ok (.ireturn, 1) := by decide +kernel
theorem dX6_result_10 : decode cX6_result 10 = .ok (.aload_n 0, 1) := by decide +kernel
theorem dX6_result_11 : decode cX6_result 11 = .ok (.getfield 49, 3) := by decide +kernel
theorem dX6_result_14 : decode cX6_result 14 = .ok (.iload_n 1, 1) := by decide +kernel
theorem dX6_result_15 : decode cX6_result 15 = .ok (.iaload, 1) := by decide +kernel
theorem dX6_result_16 : decode cX6_result 16 = .ok (.iconst 2, 1) := by decide +kernel
theorem dX6_result_17 : decode cX6_result 17 = .ok (.if_icmp .eq 6, 3) := by decide +kernel
theorem dX6_result_20 : decode cX6_result 20 = .ok (.bipush (-4), 2) := by decide +kernel
theorem dX6_result_22 : decode cX6_result 22 = .ok (.ireturn, 1) := by decide +kernel
theorem dX6_result_23 : decode cX6_result 23 = .ok (.aload_n 0, 1) := by decide +kernel
theorem dX6_result_24 : decode cX6_result 24 = .ok (.getfield 49, 3) := by decide +kernel
theorem dX6_result_27 : decode cX6_result 27 = .ok (.iload_n 1, 1) := by decide +kernel
theorem dX6_result_28 : decode cX6_result 28 = .ok (.iconst 0, 1) := by decide +kernel
theorem dX6_result_29 : decode cX6_result 29 = .ok (.iastore, 1) := by decide +kernel
theorem dX6_result_30 : decode cX6_result 30 = .ok (.aload_n 0, 1) := by decide +kernel
theorem dX6_result_31 : decode cX6_result 31 = .ok (.getfield 52, 3) := by decide +kernel
theorem dX6_result_34 : decode cX6_result 34 = .ok (.iload_n 1, 1) := by decide +kernel
theorem dX6_result_35 : decode cX6_result 35 = .ok (.iaload, 1) := by decide +kernel
theorem dX6_result_36 : decode cX6_result 36 = .ok (.ifCond .ne 54, 3) := by decide +kernel
theorem dX6_result_39 : decode cX6_result 39 = .ok (.aload_n 0, 1) := by decide +kernel
theorem dX6_result_40 : decode cX6_result 40 = .ok (.getfield 67, 3) := by decide +kernel
theorem dX6_result_43 : decode cX6_result 43 = .ok (.iload_n 1, 1) := by decide +kernel
theorem dX6_result_44 : decode cX6_result 44 = .ok (.iaload, 1) := by decide +kernel
theorem dX6_result_45 : decode cX6_result 45 = .ok (.ifCond .ne 45, 3) := by decide +kernel
theorem dX6_result_48 : decode cX6_result 48 = .ok (.aload_n 0, 1) := by decide +kernel
theorem dX6_result_49 : decode cX6_result 49 = .ok (.aload_n 0, 1) := by decide +kernel
theorem dX6_result_50 : decode cX6_result 50 = .ok (.getfield 58, 3) := by decide +kernel
theorem dX6_result_53 : decode cX6_result 53 = .ok (.iload_n 1, 1) := by decide +kernel
theorem dX6_result_54 : decode cX6_result 54 = .ok (.iaload, 1) := by decide +kernel
theorem dX6_result_55 : decode cX6_result 55 = .ok (.putfield 226, 3) := by decide +kernel
theorem dX6_result_58 : decode cX6_result 58 = .ok (.iconst 0, 1) := by decide +kernel
theorem dX6_result_59 : decode cX6_result 59 = .ok (.istore_n 2, 1) := by decide +kernel
theorem dX6_result_60 : decode cX6_result 60 = .ok (.iload_n 2, 1) := by decide +kernel
theorem dX6_result_61 : decode cX6_result 61 = .ok (.aload_n 0, 1) := by decide +kernel
theorem dX6_result_62 : decode cX6_result 62 = .ok (.getfield 226, 3) := by decide +kernel
theorem dX6_result_65 : decode cX6_result 65 = .ok (.if_icmp .ge 25, 3) := by decide +kernel
theorem dX6_result_68 : decode cX6_result 68 = .ok (.aload_n 0, 1) := by decide +kernel
theorem dX6_result_69 : decode cX6_result 69 = .ok (.getfield 70, 3) := by decide +kernel
theorem dX6_result_72 : decode cX6_result 72 = .ok (.iload_n 2, 1) := by decide +kernel
theorem dX6_result_73 : decode cX6_result 73 = .ok (.aload_n 0, 1) := by decide +kernel
theorem dX6_result_74 : decode cX6_result 74 = .ok (.getfield 61, 3) := by decide +kernel
theorem dX6_result_77 : decode cX6_result 77 = .ok (.iconst 4, 1) := by decide +kernel
theorem dX6_result_78 : decode cX6_result 78 = .ok (.iload_n 1, 1) := by decide +kernel
theorem dX6_result_79 : decode cX6_result 79 = .ok (.imul, 1) := by decide +kernel
theorem dX6_result_80 : decode cX6_result 80 = .ok (.iload_n 2, 1) := by decide +kernel
theorem dX6_result_81 : decode cX6_result 81 = .ok (.iadd, 1) := by decide +kernel
theorem dX6_result_82 : decode cX6_result 82 = .ok (.iaload, 1) := by decide +kernel
theorem dX6_result_83 : decode cX6_result 83 = .ok (.iastore, 1) := by decide +kernel
theorem dX6_result_84 : decode cX6_result 84 = .ok (.iinc 2 1, 3) := by decide +kernel
theorem dX6_result_87 : decode cX6_result 87 = .ok (.goto (-27), 3) := by decide +kernel
theorem dX6_result_90 : decode cX6_result 90 = .ok (.aload_n 0, 1) := by decide +kernel
theorem dX6_result_91 : decode cX6_result 91 = .ok (.getfield 67, 3) := by decide +kernel
theorem dX6_result_94 : decode cX6_result 94 = .ok (.iload_n 1, 1) := by decide +kernel
theorem dX6_result_95 : decode cX6_result 95 = .ok (.iaload, 1) := by decide +kernel
theorem dX6_result_96 : decode cX6_result 96 = .ok (.ireturn, 1) := by decide +kernel
theorem dX6_got_0 : decode cX6_got 0 = .ok (.iload_n 1, 1) := by decide +kernel
theorem dX6_got_1 : decode cX6_got 1 = .ok (.iconst 0, 1) := by decide +kernel
theorem dX6_got_2 : decode cX6_got 2 = .ok (.aload_n 0, 1) := by decide +kernel
theorem dX6_got_3 : decode cX6_got 3 = .ok (.getfield 226, 3) := by decide +kernel
theorem dX6_got_6 : decode cX6_got 6 = .ok (.iconst 1, 1) := by decide +kernel
theorem dX6_got_7 : decode cX6_got 7 = .ok (.isub, 1) := by decide +kernel
theorem dX6_got_8 : decode cX6_got 8 = .ok (.invokestatic 81, 3) := by decide +kernel
theorem dX6_got_11 : decode cX6_got 11 = .ok (.ifCond .eq 12, 3) := by decide +kernel
theorem dX6_got_14 : decode cX6_got 14 = .ok (.aload_n 0, 1) := by decide +kernel
theorem dX6_got_15 : decode cX6_got 15 = .ok (.getfield 70, 3) := by decide +kernel
theorem dX6_got_18 : decode cX6_got 18 = .ok (.iload_n 1, 1) := by decide +kernel
theorem dX6_got_19 : decode cX6_got 19 = .ok (.iaload, 1) := by decide +kernel
theorem dX6_got_20 : decode cX6_got 20 = .ok (.goto 4, 3) := by decide +kernel
theorem dX6_got_23 : decode cX6_got 23 = .ok (.iconst 0, 1) := by decide +kernel
theorem dX6_got_24 : decode cX6_got 24 = .ok (.ireturn, 1) := by decide +kernel
theorem dX6_way_0 : decode cX6_way 0 = .ok (.iload_n 1, 1) := by decide +kernel
theorem dX6_way_1 : decode cX6_way 1 = .ok (.iconst 0, 1) := by decide +kernel
theorem dX6_way_2 : decode cX6_way 2 = .ok (.iconst 2, 1) := by decide +kernel
theorem dX6_way_3 : decode cX6_way 3 = .ok (.invokestatic 81, 3) := by decide +kernel
theorem dX6_way_6 : decode cX6_way 6 = .ok (.ifCond .ne 6, 3) := by decide +kernel
theorem dX6_way_9 : decode cX6_way 9 = .ok (.bipush (-3), 2) := by decide +kernel
theorem dX6_way_11 : decode cX6_way 11 = .ok (.ireturn, 1) := by decide +kernel
theorem dX6_way_12 : decode cX6_way 12 = .ok (.aload_n 0, 1) := by decide +kernel
theorem dX6_way_13 : decode cX6_way 13 = .ok (.getfield 207, 3) := by decide +kernel
theorem dX6_way_16 : decode cX6_way 16 = .ok (.istore_n 2, 1) := by decide +kernel
theorem dX6_way_17 : decode cX6_way 17 = .ok (.aload_n 0, 1) := by decide +kernel
theorem dX6_way_18 : decode cX6_way 18 = .ok (.iload_n 1, 1) := by decide +kernel
theorem dX6_way_19 : decode cX6_way 19 = .ok (.putfield 207, 3) := by decide +kernel
theorem dX6_way_22 : decode cX6_way 22 = .ok (.iload_n 2, 1) := by decide +kernel
theorem dX6_way_23 : decode cX6_way 23 = .ok (.ireturn, 1) := by decide +kernel
theorem dX6_cut_0 : decode cX6_cut 0 = .ok (.aload_n 0, 1) := by decide +kernel
theorem dX6_cut_1 : decode cX6_cut 1 = .ok (.getfield 171, 3) := by decide +kernel
theorem dX6_cut_4 : decode cX6_cut 4 = .ok (.istore_n 1, 1) := by decide +kernel
theorem dX6_cut_5 : decode cX6_cut 5 = .ok (.aload_n 0, 1) := by decide +kernel
theorem dX6_cut_6 : decode cX6_cut 6 = .ok (.iconst 0, 1) := by decide +kernel
theorem dX6_cut_7 : decode cX6_cut 7 = .ok (.putfield 171, 3) := by decide +kernel
theorem dX6_cut_10 : decode cX6_cut 10 = .ok (.iconst 0, 1) := by decide +kernel
theorem dX6_cut_11 : decode cX6_cut 11 = .ok (.istore_n 2, 1) := by decide +kernel
theorem dX6_cut_12 : decode cX6_cut 12 = .ok (.iload_n 2, 1) := by decide +kernel
theorem dX6_cut_13 : decode cX6_cut 13 = .ok (.bipush 8, 2) := by decide +kernel
theorem dX6_cut_15 : decode cX6_cut 15 = .ok (.if_icmp .ge 33, 3) := by decide +kernel
theorem dX6_cut_18 : decode cX6_cut 18 = .ok (.aload_n 0, 1) := by decide +kernel
theorem dX6_cut_19 : decode cX6_cut 19 = .ok (.getfield 49, 3) := by decide +kernel
theorem dX6_cut_22 : decode cX6_cut 22 = .ok (.iload_n 2, 1) := by decide +kernel
theorem dX6_cut_23 : decode cX6_cut 23 = .ok (.iaload, 1) := by decide +kernel
theorem dX6_cut_24 : decode cX6_cut 24 = .ok (.iconst 1, 1) := by decide +kernel
theorem dX6_cut_25 : decode cX6_cut 25 = .ok (.if_icmp .ne 17, 3) := by decide +kernel
theorem dX6_cut_28 : decode cX6_cut 28 = .ok (.aload_n 0, 1) := by decide +kernel
theorem dX6_cut_29 : decode cX6_cut 29 = .ok (.getfield 49, 3) := by decide +kernel
theorem dX6_cut_32 : decode cX6_cut 32 = .ok (.iload_n 2, 1) := by decide +kernel
theorem dX6_cut_33 : decode cX6_cut 33 = .ok (.iconst 2, 1) := by decide +kernel
theorem dX6_cut_34 : decode cX6_cut 34 = .ok (.iastore, 1) := by decide +kernel
theorem dX6_cut_35 : decode cX6_cut 35 = .ok (.aload_n 0, 1) := by decide +kernel
theorem dX6_cut_36 : decode cX6_cut 36 = .ok (.getfield 67, 3) := by decide +kernel
theorem dX6_cut_39 : decode cX6_cut 39 = .ok (.iload_n 2, 1) := by decide +kernel
theorem dX6_cut_40 : decode cX6_cut 40 = .ok (.iconst 3, 1) := by decide +kernel
theorem dX6_cut_41 : decode cX6_cut 41 = .ok (.iastore, 1) := by decide +kernel
theorem dX6_cut_42 : decode cX6_cut 42 = .ok (.iinc 2 1, 3) := by decide +kernel
theorem dX6_cut_45 : decode cX6_cut 45 = .ok (.goto (-33), 3) := by decide +kernel
theorem dX6_cut_48 : decode cX6_cut 48 = .ok (.iload_n 1, 1) := by decide +kernel
theorem dX6_cut_49 : decode cX6_cut 49 = .ok (.ireturn, 1) := by decide +kernel
theorem dX6_sector_0 : decode cX6_sector 0 = .ok (.iload_n 1, 1) := by decide +kernel
theorem dX6_sector_1 : decode cX6_sector 1 = .ok (.iconst 0, 1) := by decide +kernel
theorem dX6_sector_2 : decode cX6_sector 2 = .ok (.bipush 31, 2) := by decide +kernel
theorem dX6_sector_4 : decode cX6_sector 4 = .ok (.invokestatic 81, 3) := by decide +kernel
theorem dX6_sector_7 : decode cX6_sector 7 = .ok (.ifCond .ne 7, 3) := by decide +kernel
theorem dX6_sector_10 : decode cX6_sector 10 = .ok (.iconst 0, 1) := by decide +kernel
theorem dX6_sector_11 : decode cX6_sector 11 = .ok (.goto 21, 3) := by decide +kernel
theorem dX6_sector_14 : decode cX6_sector 14 = .ok (.iload_n 2, 1) := by decide +kernel
theorem dX6_sector_15 : decode cX6_sector 15 = .ok (.ifCond .eq 11, 3) := by decide +kernel
theorem dX6_sector_18 : decode cX6_sector 18 = .ok (.aload_n 0, 1) := by decide +kernel
theorem dX6_sector_19 : decode cX6_sector 19 = .ok (.iload_n 1, 1) := by decide +kernel
theorem dX6_sector_20 : decode cX6_sector 20 = .ok (.invokevirtual 194, 3) := by decide +kernel
theorem dX6_sector_23 : decode cX6_sector 23 = .ok (.goto 9, 3) := by decide +kernel
theorem dX6_sector_26 : decode cX6_sector 26 = .ok (.aload_n 0, 1) := by decide +kernel
theorem dX6_sector_27 : decode cX6_sector 27 = .ok (.getfield 40, 3) := by decide +kernel
theorem dX6_sector_30 : decode cX6_sector 30 = .ok (.iload_n 1, 1) := by decide +kernel
theorem dX6_sector_31 : decode cX6_sector 31 = .ok (.iaload, 1) := by decide +kernel
theorem dX6_sector_32 : decode cX6_sector 32 = .ok (.ireturn, 1) := by decide +kernel
theorem dX6_cached_0 : decode cX6_cached 0 = .ok (.iload_n 1, 1) := by decide +kernel
theorem dX6_cached_1 : decode cX6_cached 1 = .ok (.iconst 0, 1) := by decide +kernel
theorem dX6_cached_2 : decode cX6_cached 2 = .ok (.aload_n 0, 1) := by decide +kernel
theorem dX6_cached_3 : decode cX6_cached 3 = .ok (.getfield 171, 3) := by decide +kernel
theorem dX6_cached_6 : decode cX6_cached 6 = .ok (.iconst 1, 1) := by decide +kernel
theorem dX6_cached_7 : decode cX6_cached 7 = .ok (.isub, 1) := by decide +kernel
theorem dX6_cached_8 : decode cX6_cached 8 = .ok (.invokestatic 81, 3) := by decide +kernel
theorem dX6_cached_11 : decode cX6_cached 11 = .ok (.ifCond .eq 12, 3) := by decide +kernel
theorem dX6_cached_14 : decode cX6_cached 14 = .ok (.aload_n 0, 1) := by decide +kernel
theorem dX6_cached_15 : decode cX6_cached 15 = .ok (.getfield 43, 3) := by decide +kernel
theorem dX6_cached_18 : decode cX6_cached 18 = .ok (.iload_n 1, 1) := by decide +kernel
theorem dX6_cached_19 : decode cX6_cached 19 = .ok (.iaload, 1) := by decide +kernel
theorem dX6_cached_20 : decode cX6_cached 20 = .ok (.goto 5, 3) := by decide +kernel
theorem dX6_cached_23 : decode cX6_cached 23 = .ok (.bipush (-2), 2) := by decide +kernel
theorem dX6_cached_25 : decode cX6_cached 25 = .ok (.ireturn, 1) := by decide +kernel
theorem dX6_state_0 : decode cX6_state 0 = .ok (.iload_n 1, 1) := by decide +kernel
theorem dX6_state_1 : decode cX6_state 1 = .ok (.invokestatic 160, 3) := by decide +kernel
theorem dX6_state_4 : decode cX6_state 4 = .ok (.ifCond .eq 12, 3) := by decide +kernel
theorem dX6_state_7 : decode cX6_state 7 = .ok (.aload_n 0, 1) := by decide +kernel
theorem dX6_state_8 : decode cX6_state 8 = .ok (.getfield 49, 3) := by decide +kernel
theorem dX6_state_11 : decode cX6_state 11 = .ok (.iload_n 1, 1) := by decide +kernel
theorem dX6_state_12 : decode cX6_state 12 = .ok (.iaload, 1) := by decide +kernel
theorem dX6_state_13 : decode cX6_state 13 = .ok (.goto 5, 3) := by decide +kernel
theorem dX6_state_16 : decode cX6_state 16 = .ok (.bipush (-2), 2) := by decide +kernel
theorem dX6_state_18 : decode cX6_state 18 = .ok (.ireturn, 1) := by decide +kernel
theorem dX6_tags_0 : decode cX6_tags 0 = .ok (.iconst 0, 1) := by decide +kernel
theorem dX6_tags_1 : decode cX6_tags 1 = .ok (.istore_n 2, 1) := by decide +kernel
theorem dX6_tags_2 : decode cX6_tags 2 = .ok (.iconst 0, 1) := by decide +kernel
theorem dX6_tags_3 : decode cX6_tags 3 = .ok (.istore_n 3, 1) := by decide +kernel
theorem dX6_tags_4 : decode cX6_tags 4 = .ok (.iload_n 3, 1) := by decide +kernel
theorem dX6_tags_5 : decode cX6_tags 5 = .ok (.bipush 8, 2) := by decide +kernel
theorem dX6_tags_7 : decode cX6_tags 7 = .ok (.if_icmp .ge 27, 3) := by decide +kernel
theorem dX6_tags_10 : decode cX6_tags 10 = .ok (.iload_n 2, 1) := by decide +kernel
theorem dX6_tags_11 : decode cX6_tags 11 = .ok (.aload_n 0, 1) := by decide +kernel
theorem dX6_tags_12 : decode cX6_tags 12 = .ok (.getfield 49, 3) := by decide +kernel
theorem dX6_tags_15 : decode cX6_tags 15 = .ok (.iload_n 3, 1) := by decide +kernel
theorem dX6_tags_16 : decode cX6_tags 16 = .ok (.iaload, 1) := by decide +kernel
theorem dX6_tags_17 : decode cX6_tags 17 = .ok (.iload_n 1, 1) := by decide +kernel
theorem dX6_tags_18 : decode cX6_tags 18 = .ok (.if_icmp .ne 7, 3) := by decide +kernel
theorem dX6_tags_21 : decode cX6_tags 21 = .ok (.iconst 1, 1) := by decide +kernel
theorem dX6_tags_22 : decode cX6_tags 22 = .ok (.goto 4, 3) := by decide +kernel
theorem dX6_tags_25 : decode cX6_tags 25 = .ok (.iconst 0, 1) := by decide +kernel
theorem dX6_tags_26 : decode cX6_tags 26 = .ok (.iadd, 1) := by decide +kernel
theorem dX6_tags_27 : decode cX6_tags 27 = .ok (.istore_n 2, 1) := by decide +kernel
theorem dX6_tags_28 : decode cX6_tags 28 = .ok (.iinc 3 1, 3) := by decide +kernel
theorem dX6_tags_31 : decode cX6_tags 31 = .ok (.goto (-27), 3) := by decide +kernel
theorem dX6_tags_34 : decode cX6_tags 34 = .ok (.iload_n 2, 1) := by decide +kernel
theorem dX6_tags_35 : decode cX6_tags 35 = .ok (.ireturn, 1) := by decide +kernel
theorem dX6_count_0 : decode cX6_count 0 = .ok (.iload_n 1, 1) := by decide +kernel
theorem dX6_count_1 : decode cX6_count 1 = .ok (.tableswitch 107 0 9 #[55, 60, 65, 70, 75, 80, 86, 92, 97, 102], 55) := by decide +kernel
theorem dX6_count_56 : decode cX6_count 56 = .ok (.aload_n 0, 1) := by decide +kernel
theorem dX6_count_57 : decode cX6_count 57 = .ok (.getfield 135, 3) := by decide +kernel
theorem dX6_count_60 : decode cX6_count 60 = .ok (.ireturn, 1) := by decide +kernel
theorem dX6_count_61 : decode cX6_count 61 = .ok (.aload_n 0, 1) := by decide +kernel
theorem dX6_count_62 : decode cX6_count 62 = .ok (.getfield 147, 3) := by decide +kernel
theorem dX6_count_65 : decode cX6_count 65 = .ok (.ireturn, 1) := by decide +kernel
theorem dX6_count_66 : decode cX6_count 66 = .ok (.aload_n 0, 1) := by decide +kernel
theorem dX6_count_67 : decode cX6_count 67 = .ok (.getfield 153, 3) := by decide +kernel
theorem dX6_count_70 : decode cX6_count 70 = .ok (.ireturn, 1) := by decide +kernel
theorem dX6_count_71 : decode cX6_count 71 = .ok (.aload_n 0, 1) := by decide +kernel
theorem dX6_count_72 : decode cX6_count 72 = .ok (.getfield 132, 3) := by decide +kernel
theorem dX6_count_75 : decode cX6_count 75 = .ok (.ireturn, 1) := by decide +kernel
theorem dX6_count_76 : decode cX6_count 76 = .ok (.aload_n 0, 1) := by decide +kernel
theorem dX6_count_77 : decode cX6_count 77 = .ok (.getfield 171, 3) := by decide +kernel
theorem dX6_count_80 : decode cX6_count 80 = .ok (.ireturn, 1) := by decide +kernel
theorem dX6_count_81 : decode cX6_count 81 = .ok (.aload_n 0, 1) := by decide +kernel
theorem dX6_count_82 : decode cX6_count 82 = .ok (.iconst 1, 1) := by decide +kernel
theorem dX6_count_83 : decode cX6_count 83 = .ok (.invokevirtual 229, 3) := by decide +kernel
theorem dX6_count_86 : decode cX6_count 86 = .ok (.ireturn, 1) := by decide +kernel
theorem dX6_count_87 : decode cX6_count 87 = .ok (.aload_n 0, 1) := by decide +kernel
theorem dX6_count_88 : decode cX6_count 88 = .ok (.iconst 2, 1) := by decide +kernel
theorem dX6_count_89 : decode cX6_count 89 = .ok (.invokevirtual 229, 3) := by decide +kernel
theorem dX6_count_92 : decode cX6_count 92 = .ok (.ireturn, 1) := by decide +kernel
theorem dX6_count_93 : decode cX6_count 93 = .ok (.aload_n 0, 1) := by decide +kernel
theorem dX6_count_94 : decode cX6_count 94 = .ok (.getfield 210, 3) := by decide +kernel
theorem dX6_count_97 : decode cX6_count 97 = .ok (.ireturn, 1) := by decide +kernel
theorem dX6_count_98 : decode cX6_count 98 = .ok (.aload_n 0, 1) := by decide +kernel
theorem dX6_count_99 : decode cX6_count 99 = .ok (.getfield 95, 3) := by decide +kernel
theorem dX6_count_102 : decode cX6_count 102 = .ok (.ireturn, 1) := by decide +kernel
theorem dX6_count_103 : decode cX6_count 103 = .ok (.aload_n 0, 1) := by decide +kernel
theorem dX6_count_104 : decode cX6_count 104 = .ok (.getfield 118, 3) := by decide +kernel
theorem dX6_count_107 : decode cX6_count 107 = .ok (.ireturn, 1) := by decide +kernel
theorem dX6_count_108 : decode cX6_count 108 = .ok (.bipush (-3), 2) := by decide +kernel
theorem dX6_count_110 : decode cX6_count 110 = .ok (.ireturn, 1) := by decide +kernel
theorem dJ6_bitCount_0f7a4_0 : decode cJ6_bitCount_0f7a4 0 = .ok (.iload_n 0, 1) := by decide +kernel
theorem dJ6_bitCount_0f7a4_1 : decode cJ6_bitCount_0f7a4 1 = .ok (.iload_n 0, 1) := by decide +kernel
theorem dJ6_bitCount_0f7a4_2 : decode cJ6_bitCount_0f7a4 2 = .ok (.iconst 1, 1) := by decide +kernel
theorem dJ6_bitCount_0f7a4_3 : decode cJ6_bitCount_0f7a4 3 = .ok (.iushr, 1) := by decide +kernel
theorem dJ6_bitCount_0f7a4_4 : decode cJ6_bitCount_0f7a4 4 = .ok (.ldc_w 265, 3) := by decide +kernel
theorem dJ6_bitCount_0f7a4_7 : decode cJ6_bitCount_0f7a4 7 = .ok (.iand, 1) := by decide +kernel
theorem dJ6_bitCount_0f7a4_8 : decode cJ6_bitCount_0f7a4 8 = .ok (.isub, 1) := by decide +kernel
theorem dJ6_bitCount_0f7a4_9 : decode cJ6_bitCount_0f7a4 9 = .ok (.istore_n 0, 1) := by decide +kernel
theorem dJ6_bitCount_0f7a4_10 : decode cJ6_bitCount_0f7a4 10 = .ok (.iload_n 0, 1) := by decide +kernel
theorem dJ6_bitCount_0f7a4_11 : decode cJ6_bitCount_0f7a4 11 = .ok (.ldc_w 266, 3) := by decide +kernel
theorem dJ6_bitCount_0f7a4_14 : decode cJ6_bitCount_0f7a4 14 = .ok (.iand, 1) := by decide +kernel
theorem dJ6_bitCount_0f7a4_15 : decode cJ6_bitCount_0f7a4 15 = .ok (.iload_n 0, 1) := by decide +kernel
theorem dJ6_bitCount_0f7a4_16 : decode cJ6_bitCount_0f7a4 16 = .ok (.iconst 2, 1) := by decide +kernel
theorem dJ6_bitCount_0f7a4_17 : decode cJ6_bitCount_0f7a4 17 = .ok (.iushr, 1) := by decide +kernel
theorem dJ6_bitCount_0f7a4_18 : decode cJ6_bitCount_0f7a4 18 = .ok (.ldc_w 266, 3) := by decide +kernel
theorem dJ6_bitCount_0f7a4_21 : decode cJ6_bitCount_0f7a4 21 = .ok (.iand, 1) := by decide +kernel
theorem dJ6_bitCount_0f7a4_22 : decode cJ6_bitCount_0f7a4 22 = .ok (.iadd, 1) := by decide +kernel
theorem dJ6_bitCount_0f7a4_23 : decode cJ6_bitCount_0f7a4 23 = .ok (.istore_n 0, 1) := by decide +kernel
theorem dJ6_bitCount_0f7a4_24 : decode cJ6_bitCount_0f7a4 24 = .ok (.iload_n 0, 1) := by decide +kernel
theorem dJ6_bitCount_0f7a4_25 : decode cJ6_bitCount_0f7a4 25 = .ok (.iload_n 0, 1) := by decide +kernel
theorem dJ6_bitCount_0f7a4_26 : decode cJ6_bitCount_0f7a4 26 = .ok (.iconst 4, 1) := by decide +kernel
theorem dJ6_bitCount_0f7a4_27 : decode cJ6_bitCount_0f7a4 27 = .ok (.iushr, 1) := by decide +kernel
theorem dJ6_bitCount_0f7a4_28 : decode cJ6_bitCount_0f7a4 28 = .ok (.iadd, 1) := by decide +kernel
theorem dJ6_bitCount_0f7a4_29 : decode cJ6_bitCount_0f7a4 29 = .ok (.ldc_w 267, 3) := by decide +kernel
theorem dJ6_bitCount_0f7a4_32 : decode cJ6_bitCount_0f7a4 32 = .ok (.iand, 1) := by decide +kernel
theorem dJ6_bitCount_0f7a4_33 : decode cJ6_bitCount_0f7a4 33 = .ok (.istore_n 0, 1) := by decide +kernel
theorem dJ6_bitCount_0f7a4_34 : decode cJ6_bitCount_0f7a4 34 = .ok (.iload_n 0, 1) := by decide +kernel
theorem dJ6_bitCount_0f7a4_35 : decode cJ6_bitCount_0f7a4 35 = .ok (.iload_n 0, 1) := by decide +kernel
theorem dJ6_bitCount_0f7a4_36 : decode cJ6_bitCount_0f7a4 36 = .ok (.bipush 8, 2) := by decide +kernel
theorem dJ6_bitCount_0f7a4_38 : decode cJ6_bitCount_0f7a4 38 = .ok (.iushr, 1) := by decide +kernel
theorem dJ6_bitCount_0f7a4_39 : decode cJ6_bitCount_0f7a4 39 = .ok (.iadd, 1) := by decide +kernel
theorem dJ6_bitCount_0f7a4_40 : decode cJ6_bitCount_0f7a4 40 = .ok (.istore_n 0, 1) := by decide +kernel
theorem dJ6_bitCount_0f7a4_41 : decode cJ6_bitCount_0f7a4 41 = .ok (.iload_n 0, 1) := by decide +kernel
theorem dJ6_bitCount_0f7a4_42 : decode cJ6_bitCount_0f7a4 42 = .ok (.iload_n 0, 1) := by decide +kernel
theorem dJ6_bitCount_0f7a4_43 : decode cJ6_bitCount_0f7a4 43 = .ok (.bipush 16, 2) := by decide +kernel
theorem dJ6_bitCount_0f7a4_45 : decode cJ6_bitCount_0f7a4 45 = .ok (.iushr, 1) := by decide +kernel
theorem dJ6_bitCount_0f7a4_46 : decode cJ6_bitCount_0f7a4 46 = .ok (.iadd, 1) := by decide +kernel
theorem dJ6_bitCount_0f7a4_47 : decode cJ6_bitCount_0f7a4 47 = .ok (.istore_n 0, 1) := by decide +kernel
theorem dJ6_bitCount_0f7a4_48 : decode cJ6_bitCount_0f7a4 48 = .ok (.iload_n 0, 1) := by decide +kernel
theorem dJ6_bitCount_0f7a4_49 : decode cJ6_bitCount_0f7a4 49 = .ok (.bipush 63, 2) := by decide +kernel
theorem dJ6_bitCount_0f7a4_51 : decode cJ6_bitCount_0f7a4 51 = .ok (.iand, 1) := by decide +kernel
theorem dJ6_bitCount_0f7a4_52 : decode cJ6_bitCount_0f7a4 52 = .ok (.ireturn, 1) := by decide +kernel
theorem dL_law_0 : decode cL_law 0 = .ok (.new 7, 3) := by decide +kernel
theorem dL_law_3 : decode cL_law 3 = .ok (.dup, 1) := by decide +kernel
theorem dL_law_4 : decode cL_law 4 = .ok (.invokespecial 9, 3) := by decide +kernel
theorem dL_law_7 : decode cL_law 7 = .ok (.astore_n 1, 1) := by decide +kernel
theorem dL_law_8 : decode cL_law 8 = .ok (.new 10, 3) := by decide +kernel
theorem dL_law_11 : decode cL_law 11 = .ok (.dup, 1) := by decide +kernel
theorem dL_law_12 : decode cL_law 12 = .ok (.invokespecial 12, 3) := by decide +kernel
theorem dL_law_15 : decode cL_law 15 = .ok (.astore_n 2, 1) := by decide +kernel
theorem dL_law_16 : decode cL_law 16 = .ok (.iconst 0, 1) := by decide +kernel
theorem dL_law_17 : decode cL_law 17 = .ok (.istore_n 3, 1) := by decide +kernel
theorem dL_law_18 : decode cL_law 18 = .ok (.iload_n 3, 1) := by decide +kernel
theorem dL_law_19 : decode cL_law 19 = .ok (.aload_n 0, 1) := by decide +kernel
theorem dL_law_20 : decode cL_law 20 = .ok (.arraylength, 1) := by decide +kernel
theorem dL_law_21 : decode cL_law 21 = .ok (.bipush 9, 2) := by decide +kernel
theorem dL_law_23 : decode cL_law 23 = .ok (.isub, 1) := by decide +kernel
theorem dL_law_24 : decode cL_law 24 = .ok (.if_icmp .gt 764, 3) := by decide +kernel
theorem dL_law_27 : decode cL_law 27 = .ok (.aload_n 0, 1) := by decide +kernel
theorem dL_law_28 : decode cL_law 28 = .ok (.iload_n 3, 1) := by decide +kernel
theorem dL_law_29 : decode cL_law 29 = .ok (.iaload, 1) := by decide +kernel
theorem dL_law_30 : decode cL_law 30 = .ok (.bipush 31, 2) := by decide +kernel
theorem dL_law_32 : decode cL_law 32 = .ok (.iand, 1) := by decide +kernel
theorem dL_law_33 : decode cL_law 33 = .ok (.tableswitch 749 0 21 #[103, 152, 201, 224, 237, 250, 273, 296, 329, 342, 385, 500, 523, 536, 549, 572, 595, 618, 631, 680, 703, 726], 103) := by decide +kernel
theorem dL_law_136 : decode cL_law 136 = .ok (.aload_n 1, 1) := by decide +kernel
theorem dL_law_137 : decode cL_law 137 = .ok (.aload_n 0, 1) := by decide +kernel
theorem dL_law_138 : decode cL_law 138 = .ok (.iload_n 3, 1) := by decide +kernel
theorem dL_law_139 : decode cL_law 139 = .ok (.iconst 1, 1) := by decide +kernel
theorem dL_law_140 : decode cL_law 140 = .ok (.iadd, 1) := by decide +kernel
theorem dL_law_141 : decode cL_law 141 = .ok (.iaload, 1) := by decide +kernel
theorem dL_law_142 : decode cL_law 142 = .ok (.aload_n 0, 1) := by decide +kernel
theorem dL_law_143 : decode cL_law 143 = .ok (.iload_n 3, 1) := by decide +kernel
theorem dL_law_144 : decode cL_law 144 = .ok (.iconst 2, 1) := by decide +kernel
theorem dL_law_145 : decode cL_law 145 = .ok (.iadd, 1) := by decide +kernel
theorem dL_law_146 : decode cL_law 146 = .ok (.iaload, 1) := by decide +kernel
theorem dL_law_147 : decode cL_law 147 = .ok (.ifCond .eq 7, 3) := by decide +kernel
theorem dL_law_150 : decode cL_law 150 = .ok (.iconst 1, 1) := by decide +kernel
theorem dL_law_151 : decode cL_law 151 = .ok (.goto 4, 3) := by decide +kernel
theorem dL_law_154 : decode cL_law 154 = .ok (.iconst 0, 1) := by decide +kernel
theorem dL_law_155 : decode cL_law 155 = .ok (.invokevirtual 13, 3) := by decide +kernel
theorem dL_law_158 : decode cL_law 158 = .ok (.aload_n 2, 1) := by decide +kernel
theorem dL_law_159 : decode cL_law 159 = .ok (.aload_n 0, 1) := by decide +kernel
theorem dL_law_160 : decode cL_law 160 = .ok (.iload_n 3, 1) := by decide +kernel
theorem dL_law_161 : decode cL_law 161 = .ok (.iconst 1, 1) := by decide +kernel
theorem dL_law_162 : decode cL_law 162 = .ok (.iadd, 1) := by decide +kernel
theorem dL_law_163 : decode cL_law 163 = .ok (.iaload, 1) := by decide +kernel
theorem dL_law_164 : decode cL_law 164 = .ok (.aload_n 0, 1) := by decide +kernel
theorem dL_law_165 : decode cL_law 165 = .ok (.iload_n 3, 1) := by decide +kernel
theorem dL_law_166 : decode cL_law 166 = .ok (.iconst 2, 1) := by decide +kernel
theorem dL_law_167 : decode cL_law 167 = .ok (.iadd, 1) := by decide +kernel
theorem dL_law_168 : decode cL_law 168 = .ok (.iaload, 1) := by decide +kernel
theorem dL_law_169 : decode cL_law 169 = .ok (.ifCond .eq 7, 3) := by decide +kernel
theorem dL_law_172 : decode cL_law 172 = .ok (.iconst 1, 1) := by decide +kernel
theorem dL_law_173 : decode cL_law 173 = .ok (.goto 4, 3) := by decide +kernel
theorem dL_law_176 : decode cL_law 176 = .ok (.iconst 0, 1) := by decide +kernel
theorem dL_law_177 : decode cL_law 177 = .ok (.invokevirtual 17, 3) := by decide +kernel
theorem dL_law_180 : decode cL_law 180 = .ok (.if_icmp .eq 602, 3) := by decide +kernel
theorem dL_law_183 : decode cL_law 183 = .ok (.iconst 0, 1) := by decide +kernel
theorem dL_law_184 : decode cL_law 184 = .ok (.ireturn, 1) := by decide +kernel
theorem dL_law_185 : decode cL_law 185 = .ok (.aload_n 1, 1) := by decide +kernel
theorem dL_law_186 : decode cL_law 186 = .ok (.aload_n 0, 1) := by decide +kernel
theorem dL_law_187 : decode cL_law 187 = .ok (.iload_n 3, 1) := by decide +kernel
theorem dL_law_188 : decode cL_law 188 = .ok (.iconst 1, 1) := by decide +kernel
theorem dL_law_189 : decode cL_law 189 = .ok (.iadd, 1) := by decide +kernel
theorem dL_law_190 : decode cL_law 190 = .ok (.iaload, 1) := by decide +kernel
theorem dL_law_191 : decode cL_law 191 = .ok (.aload_n 0, 1) := by decide +kernel
theorem dL_law_192 : decode cL_law 192 = .ok (.iload_n 3, 1) := by decide +kernel
theorem dL_law_193 : decode cL_law 193 = .ok (.iconst 2, 1) := by decide +kernel
theorem dL_law_194 : decode cL_law 194 = .ok (.iadd, 1) := by decide +kernel
theorem dL_law_195 : decode cL_law 195 = .ok (.iaload, 1) := by decide +kernel
theorem dL_law_196 : decode cL_law 196 = .ok (.ifCond .eq 7, 3) := by decide +kernel
theorem dL_law_199 : decode cL_law 199 = .ok (.iconst 1, 1) := by decide +kernel
theorem dL_law_200 : decode cL_law 200 = .ok (.goto 4, 3) := by decide +kernel
theorem dL_law_203 : decode cL_law 203 = .ok (.iconst 0, 1) := by decide +kernel
theorem dL_law_204 : decode cL_law 204 = .ok (.invokevirtual 18, 3) := by decide +kernel
theorem dL_law_207 : decode cL_law 207 = .ok (.aload_n 2, 1) := by decide +kernel
theorem dL_law_208 : decode cL_law 208 = .ok (.aload_n 0, 1) := by decide +kernel
theorem dL_law_209 : decode cL_law 209 = .ok (.iload_n 3, 1) := by decide +kernel
theorem dL_law_210 : decode cL_law 210 = .ok (.iconst 1, 1) := by decide +kernel
theorem dL_law_211 : decode cL_law 211 = .ok (.iadd, 1) := by decide +kernel
theorem dL_law_212 : decode cL_law 212 = .ok (.iaload, 1) := by decide +kernel
theorem dL_law_213 : decode cL_law 213 = .ok (.aload_n 0, 1) := by decide +kernel
theorem dL_law_214 : decode cL_law 214 = .ok (.iload_n 3, 1) := by decide +kernel
theorem dL_law_215 : decode cL_law 215 = .ok (.iconst 2, 1) := by decide +kernel
theorem dL_law_216 : decode cL_law 216 = .ok (.iadd, 1) := by decide +kernel
theorem dL_law_217 : decode cL_law 217 = .ok (.iaload, 1) := by decide +kernel
theorem dL_law_218 : decode cL_law 218 = .ok (.ifCond .eq 7, 3) := by decide +kernel
theorem dL_law_221 : decode cL_law 221 = .ok (.iconst 1, 1) := by decide +kernel
theorem dL_law_222 : decode cL_law 222 = .ok (.goto 4, 3) := by decide +kernel
theorem dL_law_225 : decode cL_law 225 = .ok (.iconst 0, 1) := by decide +kernel
theorem dL_law_226 : decode cL_law 226 = .ok (.invokevirtual 21, 3) := by decide +kernel
theorem dL_law_229 : decode cL_law 229 = .ok (.if_icmp .eq 553, 3) := by decide +kernel
theorem dL_law_232 : decode cL_law 232 = .ok (.iconst 0, 1) := by decide +kernel
theorem dL_law_233 : decode cL_law 233 = .ok (.ireturn, 1) := by decide +kernel
theorem dL_law_234 : decode cL_law 234 = .ok (.aload_n 1, 1) := by decide +kernel
theorem dL_law_235 : decode cL_law 235 = .ok (.aload_n 0, 1) := by decide +kernel
theorem dL_law_236 : decode cL_law 236 = .ok (.iload_n 3, 1) := by decide +kernel
theorem dL_law_237 : decode cL_law 237 = .ok (.iconst 1, 1) := by decide +kernel
theorem dL_law_238 : decode cL_law 238 = .ok (.iadd, 1) := by decide +kernel
theorem dL_law_239 : decode cL_law 239 = .ok (.iaload, 1) := by decide +kernel
theorem dL_law_240 : decode cL_law 240 = .ok (.invokevirtual 22, 3) := by decide +kernel
theorem dL_law_243 : decode cL_law 243 = .ok (.aload_n 2, 1) := by decide +kernel
theorem dL_law_244 : decode cL_law 244 = .ok (.aload_n 0, 1) := by decide +kernel
theorem dL_law_245 : decode cL_law 245 = .ok (.iload_n 3, 1) := by decide +kernel
theorem dL_law_246 : decode cL_law 246 = .ok (.iconst 1, 1) := by decide +kernel
theorem dL_law_247 : decode cL_law 247 = .ok (.iadd, 1) := by decide +kernel
theorem dL_law_248 : decode cL_law 248 = .ok (.iaload, 1) := by decide +kernel
theorem dL_law_249 : decode cL_law 249 = .ok (.invokevirtual 26, 3) := by decide +kernel
theorem dL_law_252 : decode cL_law 252 = .ok (.if_icmp .eq 530, 3) := by decide +kernel
theorem dL_law_255 : decode cL_law 255 = .ok (.iconst 0, 1) := by decide +kernel
theorem dL_law_256 : decode cL_law 256 = .ok (.ireturn, 1) := by decide +kernel
theorem dL_law_257 : decode cL_law 257 = .ok (.aload_n 1, 1) := by decide +kernel
theorem dL_law_258 : decode cL_law 258 = .ok (.invokevirtual 27, 3) := by decide +kernel
theorem dL_law_261 : decode cL_law 261 = .ok (.aload_n 2, 1) := by decide +kernel
theorem dL_law_262 : decode cL_law 262 = .ok (.invokevirtual 31, 3) := by decide +kernel
theorem dL_law_265 : decode cL_law 265 = .ok (.if_icmp .eq 517, 3) := by decide +kernel
theorem dL_law_268 : decode cL_law 268 = .ok (.iconst 0, 1) := by decide +kernel
theorem dL_law_269 : decode cL_law 269 = .ok (.ireturn, 1) := by decide +kernel
theorem dL_law_270 : decode cL_law 270 = .ok (.aload_n 1, 1) := by decide +kernel
theorem dL_law_271 : decode cL_law 271 = .ok (.invokevirtual 32, 3) := by decide +kernel
theorem dL_law_274 : decode cL_law 274 = .ok (.aload_n 2, 1) := by decide +kernel
theorem dL_law_275 : decode cL_law 275 = .ok (.invokevirtual 35, 3) := by decide +kernel
theorem dL_law_278 : decode cL_law 278 = .ok (.if_icmp .eq 504, 3) := by decide +kernel
theorem dL_law_281 : decode cL_law 281 = .ok (.iconst 0, 1) := by decide +kernel
theorem dL_law_282 : decode cL_law 282 = .ok (.ireturn, 1) := by decide +kernel
theorem dL_law_283 : decode cL_law 283 = .ok (.aload_n 1, 1) := by decide +kernel
theorem dL_law_284 : decode cL_law 284 = .ok (.aload_n 0, 1) := by decide +kernel
theorem dL_law_285 : decode cL_law 285 = .ok (.iload_n 3, 1) := by decide +kernel
theorem dL_law_286 : decode cL_law 286 = .ok (.iconst 1, 1) := by decide +kernel
theorem dL_law_287 : decode cL_law 287 = .ok (.iadd, 1) := by decide +kernel
theorem dL_law_288 : decode cL_law 288 = .ok (.iaload, 1) := by decide +kernel
theorem dL_law_289 : decode cL_law 289 = .ok (.invokevirtual 36, 3) := by decide +kernel
theorem dL_law_292 : decode cL_law 292 = .ok (.aload_n 2, 1) := by decide +kernel
theorem dL_law_293 : decode cL_law 293 = .ok (.aload_n 0, 1) := by decide +kernel
theorem dL_law_294 : decode cL_law 294 = .ok (.iload_n 3, 1) := by decide +kernel
theorem dL_law_295 : decode cL_law 295 = .ok (.iconst 1, 1) := by decide +kernel
theorem dL_law_296 : decode cL_law 296 = .ok (.iadd, 1) := by decide +kernel
theorem dL_law_297 : decode cL_law 297 = .ok (.iaload, 1) := by decide +kernel
theorem dL_law_298 : decode cL_law 298 = .ok (.invokevirtual 39, 3) := by decide +kernel
theorem dL_law_301 : decode cL_law 301 = .ok (.if_icmp .eq 481, 3) := by decide +kernel
theorem dL_law_304 : decode cL_law 304 = .ok (.iconst 0, 1) := by decide +kernel
theorem dL_law_305 : decode cL_law 305 = .ok (.ireturn, 1) := by decide +kernel
theorem dL_law_306 : decode cL_law 306 = .ok (.aload_n 1, 1) := by decide +kernel
theorem dL_law_307 : decode cL_law 307 = .ok (.aload_n 0, 1) := by decide +kernel
theorem dL_law_308 : decode cL_law 308 = .ok (.iload_n 3, 1) := by decide +kernel
theorem dL_law_309 : decode cL_law 309 = .ok (.iconst 1, 1) := by decide +kernel
theorem dL_law_310 : decode cL_law 310 = .ok (.iadd, 1) := by decide +kernel
theorem dL_law_311 : decode cL_law 311 = .ok (.iaload, 1) := by decide +kernel
theorem dL_law_312 : decode cL_law 312 = .ok (.invokevirtual 40, 3) := by decide +kernel
theorem dL_law_315 : decode cL_law 315 = .ok (.aload_n 2, 1) := by decide +kernel
theorem dL_law_316 : decode cL_law 316 = .ok (.aload_n 0, 1) := by decide +kernel
theorem dL_law_317 : decode cL_law 317 = .ok (.iload_n 3, 1) := by decide +kernel
theorem dL_law_318 : decode cL_law 318 = .ok (.iconst 1, 1) := by decide +kernel
theorem dL_law_319 : decode cL_law 319 = .ok (.iadd, 1) := by decide +kernel
theorem dL_law_320 : decode cL_law 320 = .ok (.iaload, 1) := by decide +kernel
theorem dL_law_321 : decode cL_law 321 = .ok (.invokevirtual 43, 3) := by decide +kernel
theorem dL_law_324 : decode cL_law 324 = .ok (.if_icmp .eq 458, 3) := by decide +kernel
theorem dL_law_327 : decode cL_law 327 = .ok (.iconst 0, 1) := by decide +kernel
theorem dL_law_328 : decode cL_law 328 = .ok (.ireturn, 1) := by decide +kernel
theorem dL_law_329 : decode cL_law 329 = .ok (.aload_n 1, 1) := by decide +kernel
theorem dL_law_330 : decode cL_law 330 = .ok (.aload_n 0, 1) := by decide +kernel
theorem dL_law_331 : decode cL_law 331 = .ok (.iload_n 3, 1) := by decide +kernel
theorem dL_law_332 : decode cL_law 332 = .ok (.iconst 1, 1) := by decide +kernel
theorem dL_law_333 : decode cL_law 333 = .ok (.iadd, 1) := by decide +kernel
theorem dL_law_334 : decode cL_law 334 = .ok (.iaload, 1) := by decide +kernel
theorem dL_law_335 : decode cL_law 335 = .ok (.aload_n 0, 1) := by decide +kernel
theorem dL_law_336 : decode cL_law 336 = .ok (.iload_n 3, 1) := by decide +kernel
theorem dL_law_337 : decode cL_law 337 = .ok (.iconst 2, 1) := by decide +kernel
theorem dL_law_338 : decode cL_law 338 = .ok (.iadd, 1) := by decide +kernel
theorem dL_law_339 : decode cL_law 339 = .ok (.iaload, 1) := by decide +kernel
theorem dL_law_340 : decode cL_law 340 = .ok (.invokevirtual 44, 3) := by decide +kernel
theorem dL_law_343 : decode cL_law 343 = .ok (.aload_n 2, 1) := by decide +kernel
theorem dL_law_344 : decode cL_law 344 = .ok (.aload_n 0, 1) := by decide +kernel
theorem dL_law_345 : decode cL_law 345 = .ok (.iload_n 3, 1) := by decide +kernel
theorem dL_law_346 : decode cL_law 346 = .ok (.iconst 1, 1) := by decide +kernel
theorem dL_law_347 : decode cL_law 347 = .ok (.iadd, 1) := by decide +kernel
theorem dL_law_348 : decode cL_law 348 = .ok (.iaload, 1) := by decide +kernel
theorem dL_law_349 : decode cL_law 349 = .ok (.aload_n 0, 1) := by decide +kernel
theorem dL_law_350 : decode cL_law 350 = .ok (.iload_n 3, 1) := by decide +kernel
theorem dL_law_351 : decode cL_law 351 = .ok (.iconst 2, 1) := by decide +kernel
theorem dL_law_352 : decode cL_law 352 = .ok (.iadd, 1) := by decide +kernel
theorem dL_law_353 : decode cL_law 353 = .ok (.iaload, 1) := by decide +kernel
theorem dL_law_354 : decode cL_law 354 = .ok (.invokevirtual 48, 3) := by decide +kernel
theorem dL_law_357 : decode cL_law 357 = .ok (.if_icmp .eq 425, 3) := by decide +kernel
theorem dL_law_360 : decode cL_law 360 = .ok (.iconst 0, 1) := by decide +kernel
theorem dL_law_361 : decode cL_law 361 = .ok (.ireturn, 1) := by decide +kernel
theorem dL_law_362 : decode cL_law 362 = .ok (.aload_n 1, 1) := by decide +kernel
theorem dL_law_363 : decode cL_law 363 = .ok (.invokevirtual 49, 3) := by decide +kernel
theorem dL_law_366 : decode cL_law 366 = .ok (.aload_n 2, 1) := by decide +kernel
theorem dL_law_367 : decode cL_law 367 = .ok (.invokevirtual 52, 3) := by decide +kernel
theorem dL_law_370 : decode cL_law 370 = .ok (.if_icmp .eq 412, 3) := by decide +kernel
theorem dL_law_373 : decode cL_law 373 = .ok (.iconst 0, 1) := by decide +kernel
theorem dL_law_374 : decode cL_law 374 = .ok (.ireturn, 1) := by decide +kernel
theorem dL_law_375 : decode cL_law 375 = .ok (.aload_n 1, 1) := by decide +kernel
theorem dL_law_376 : decode cL_law 376 = .ok (.aload_n 0, 1) := by decide +kernel
theorem dL_law_377 : decode cL_law 377 = .ok (.iload_n 3, 1) := by decide +kernel
theorem dL_law_378 : decode cL_law 378 = .ok (.iconst 1, 1) := by decide +kernel
theorem dL_law_379 : decode cL_law 379 = .ok (.iadd, 1) := by decide +kernel
theorem dL_law_380 : decode cL_law 380 = .ok (.iaload, 1) := by decide +kernel
theorem dL_law_381 : decode cL_law 381 = .ok (.aload_n 0, 1) := by decide +kernel
theorem dL_law_382 : decode cL_law 382 = .ok (.iload_n 3, 1) := by decide +kernel
theorem dL_law_383 : decode cL_law 383 = .ok (.iconst 2, 1) := by decide +kernel
theorem dL_law_384 : decode cL_law 384 = .ok (.iadd, 1) := by decide +kernel
theorem dL_law_385 : decode cL_law 385 = .ok (.iaload, 1) := by decide +kernel
theorem dL_law_386 : decode cL_law 386 = .ok (.aload_n 0, 1) := by decide +kernel
theorem dL_law_387 : decode cL_law 387 = .ok (.iload_n 3, 1) := by decide +kernel
theorem dL_law_388 : decode cL_law 388 = .ok (.iconst 3, 1) := by decide +kernel
theorem dL_law_389 : decode cL_law 389 = .ok (.iadd, 1) := by decide +kernel
theorem dL_law_390 : decode cL_law 390 = .ok (.iaload, 1) := by decide +kernel
theorem dL_law_391 : decode cL_law 391 = .ok (.invokevirtual 53, 3) := by decide +kernel
theorem dL_law_394 : decode cL_law 394 = .ok (.aload_n 2, 1) := by decide +kernel
theorem dL_law_395 : decode cL_law 395 = .ok (.aload_n 0, 1) := by decide +kernel
theorem dL_law_396 : decode cL_law 396 = .ok (.iload_n 3, 1) := by decide +kernel
theorem dL_law_397 : decode cL_law 397 = .ok (.iconst 1, 1) := by decide +kernel
theorem dL_law_398 : decode cL_law 398 = .ok (.iadd, 1) := by decide +kernel
theorem dL_law_399 : decode cL_law 399 = .ok (.iaload, 1) := by decide +kernel
theorem dL_law_400 : decode cL_law 400 = .ok (.aload_n 0, 1) := by decide +kernel
theorem dL_law_401 : decode cL_law 401 = .ok (.iload_n 3, 1) := by decide +kernel
theorem dL_law_402 : decode cL_law 402 = .ok (.iconst 2, 1) := by decide +kernel
theorem dL_law_403 : decode cL_law 403 = .ok (.iadd, 1) := by decide +kernel
theorem dL_law_404 : decode cL_law 404 = .ok (.iaload, 1) := by decide +kernel
theorem dL_law_405 : decode cL_law 405 = .ok (.aload_n 0, 1) := by decide +kernel
theorem dL_law_406 : decode cL_law 406 = .ok (.iload_n 3, 1) := by decide +kernel
theorem dL_law_407 : decode cL_law 407 = .ok (.iconst 3, 1) := by decide +kernel
theorem dL_law_408 : decode cL_law 408 = .ok (.iadd, 1) := by decide +kernel
theorem dL_law_409 : decode cL_law 409 = .ok (.iaload, 1) := by decide +kernel
theorem dL_law_410 : decode cL_law 410 = .ok (.invokevirtual 57, 3) := by decide +kernel
theorem dL_law_413 : decode cL_law 413 = .ok (.if_icmp .eq 369, 3) := by decide +kernel
theorem dL_law_416 : decode cL_law 416 = .ok (.iconst 0, 1) := by decide +kernel
theorem dL_law_417 : decode cL_law 417 = .ok (.ireturn, 1) := by decide +kernel
theorem dL_law_418 : decode cL_law 418 = .ok (.aload_n 1, 1) := by decide +kernel
theorem dL_law_419 : decode cL_law 419 = .ok (.aload_n 0, 1) := by decide +kernel
theorem dL_law_420 : decode cL_law 420 = .ok (.iload_n 3, 1) := by decide +kernel
theorem dL_law_421 : decode cL_law 421 = .ok (.iconst 1, 1) := by decide +kernel
theorem dL_law_422 : decode cL_law 422 = .ok (.iadd, 1) := by decide +kernel
theorem dL_law_423 : decode cL_law 423 = .ok (.iaload, 1) := by decide +kernel
theorem dL_law_424 : decode cL_law 424 = .ok (.aload_n 0, 1) := by decide +kernel
theorem dL_law_425 : decode cL_law 425 = .ok (.iload_n 3, 1) := by decide +kernel
theorem dL_law_426 : decode cL_law 426 = .ok (.iconst 2, 1) := by decide +kernel
theorem dL_law_427 : decode cL_law 427 = .ok (.iadd, 1) := by decide +kernel
theorem dL_law_428 : decode cL_law 428 = .ok (.iaload, 1) := by decide +kernel
theorem dL_law_429 : decode cL_law 429 = .ok (.aload_n 0, 1) := by decide +kernel
theorem dL_law_430 : decode cL_law 430 = .ok (.iload_n 3, 1) := by decide +kernel
theorem dL_law_431 : decode cL_law 431 = .ok (.iconst 3, 1) := by decide +kernel
theorem dL_law_432 : decode cL_law 432 = .ok (.iadd, 1) := by decide +kernel
theorem dL_law_433 : decode cL_law 433 = .ok (.iaload, 1) := by decide +kernel
theorem dL_law_434 : decode cL_law 434 = .ok (.aload_n 0, 1) := by decide +kernel
theorem dL_law_435 : decode cL_law 435 = .ok (.iload_n 3, 1) := by decide +kernel
theorem dL_law_436 : decode cL_law 436 = .ok (.iconst 4, 1) := by decide +kernel
theorem dL_law_437 : decode cL_law 437 = .ok (.iadd, 1) := by decide +kernel
theorem dL_law_438 : decode cL_law 438 = .ok (.iaload, 1) := by decide +kernel
theorem dL_law_439 : decode cL_law 439 = .ok (.ifCond .eq 7, 3) := by decide +kernel
theorem dL_law_442 : decode cL_law 442 = .ok (.iconst 1, 1) := by decide +kernel
theorem dL_law_443 : decode cL_law 443 = .ok (.goto 4, 3) := by decide +kernel
theorem dL_law_446 : decode cL_law 446 = .ok (.iconst 0, 1) := by decide +kernel
theorem dL_law_447 : decode cL_law 447 = .ok (.aload_n 0, 1) := by decide +kernel
theorem dL_law_448 : decode cL_law 448 = .ok (.iload_n 3, 1) := by decide +kernel
theorem dL_law_449 : decode cL_law 449 = .ok (.iconst 5, 1) := by decide +kernel
theorem dL_law_450 : decode cL_law 450 = .ok (.iadd, 1) := by decide +kernel
theorem dL_law_451 : decode cL_law 451 = .ok (.iaload, 1) := by decide +kernel
theorem dL_law_452 : decode cL_law 452 = .ok (.aload_n 0, 1) := by decide +kernel
theorem dL_law_453 : decode cL_law 453 = .ok (.iload_n 3, 1) := by decide +kernel
theorem dL_law_454 : decode cL_law 454 = .ok (.bipush 6, 2) := by decide +kernel
theorem dL_law_456 : decode cL_law 456 = .ok (.iadd, 1) := by decide +kernel
theorem dL_law_457 : decode cL_law 457 = .ok (.iaload, 1) := by decide +kernel
theorem dL_law_458 : decode cL_law 458 = .ok (.aload_n 0, 1) := by decide +kernel
theorem dL_law_459 : decode cL_law 459 = .ok (.iload_n 3, 1) := by decide +kernel
theorem dL_law_460 : decode cL_law 460 = .ok (.bipush 7, 2) := by decide +kernel
theorem dL_law_462 : decode cL_law 462 = .ok (.iadd, 1) := by decide +kernel
theorem dL_law_463 : decode cL_law 463 = .ok (.iaload, 1) := by decide +kernel
theorem dL_law_464 : decode cL_law 464 = .ok (.aload_n 0, 1) := by decide +kernel
theorem dL_law_465 : decode cL_law 465 = .ok (.iload_n 3, 1) := by decide +kernel
theorem dL_law_466 : decode cL_law 466 = .ok (.bipush 8, 2) := by decide +kernel
theorem dL_law_468 : decode cL_law 468 = .ok (.iadd, 1) := by decide +kernel
theorem dL_law_469 : decode cL_law 469 = .ok (.iaload, 1) := by decide +kernel
theorem dL_law_470 : decode cL_law 470 = .ok (.invokevirtual 58, 3) := by decide +kernel
theorem dL_law_473 : decode cL_law 473 = .ok (.aload_n 2, 1) := by decide +kernel
theorem dL_law_474 : decode cL_law 474 = .ok (.aload_n 0, 1) := by decide +kernel
theorem dL_law_475 : decode cL_law 475 = .ok (.iload_n 3, 1) := by decide +kernel
theorem dL_law_476 : decode cL_law 476 = .ok (.iconst 1, 1) := by decide +kernel
theorem dL_law_477 : decode cL_law 477 = .ok (.iadd, 1) := by decide +kernel
theorem dL_law_478 : decode cL_law 478 = .ok (.iaload, 1) := by decide +kernel
theorem dL_law_479 : decode cL_law 479 = .ok (.aload_n 0, 1) := by decide +kernel
theorem dL_law_480 : decode cL_law 480 = .ok (.iload_n 3, 1) := by decide +kernel
theorem dL_law_481 : decode cL_law 481 = .ok (.iconst 2, 1) := by decide +kernel
theorem dL_law_482 : decode cL_law 482 = .ok (.iadd, 1) := by decide +kernel
theorem dL_law_483 : decode cL_law 483 = .ok (.iaload, 1) := by decide +kernel
theorem dL_law_484 : decode cL_law 484 = .ok (.aload_n 0, 1) := by decide +kernel
theorem dL_law_485 : decode cL_law 485 = .ok (.iload_n 3, 1) := by decide +kernel
theorem dL_law_486 : decode cL_law 486 = .ok (.iconst 3, 1) := by decide +kernel
theorem dL_law_487 : decode cL_law 487 = .ok (.iadd, 1) := by decide +kernel
theorem dL_law_488 : decode cL_law 488 = .ok (.iaload, 1) := by decide +kernel
theorem dL_law_489 : decode cL_law 489 = .ok (.aload_n 0, 1) := by decide +kernel
theorem dL_law_490 : decode cL_law 490 = .ok (.iload_n 3, 1) := by decide +kernel
theorem dL_law_491 : decode cL_law 491 = .ok (.iconst 4, 1) := by decide +kernel
theorem dL_law_492 : decode cL_law 492 = .ok (.iadd, 1) := by decide +kernel
theorem dL_law_493 : decode cL_law 493 = .ok (.iaload, 1) := by decide +kernel
theorem dL_law_494 : decode cL_law 494 = .ok (.ifCond .eq 7, 3) := by decide +kernel
theorem dL_law_497 : decode cL_law 497 = .ok (.iconst 1, 1) := by decide +kernel
theorem dL_law_498 : decode cL_law 498 = .ok (.goto 4, 3) := by decide +kernel
theorem dL_law_501 : decode cL_law 501 = .ok (.iconst 0, 1) := by decide +kernel
theorem dL_law_502 : decode cL_law 502 = .ok (.aload_n 0, 1) := by decide +kernel
theorem dL_law_503 : decode cL_law 503 = .ok (.iload_n 3, 1) := by decide +kernel
theorem dL_law_504 : decode cL_law 504 = .ok (.iconst 5, 1) := by decide +kernel
theorem dL_law_505 : decode cL_law 505 = .ok (.iadd, 1) := by decide +kernel
theorem dL_law_506 : decode cL_law 506 = .ok (.iaload, 1) := by decide +kernel
theorem dL_law_507 : decode cL_law 507 = .ok (.aload_n 0, 1) := by decide +kernel
theorem dL_law_508 : decode cL_law 508 = .ok (.iload_n 3, 1) := by decide +kernel
theorem dL_law_509 : decode cL_law 509 = .ok (.bipush 6, 2) := by decide +kernel
theorem dL_law_511 : decode cL_law 511 = .ok (.iadd, 1) := by decide +kernel
theorem dL_law_512 : decode cL_law 512 = .ok (.iaload, 1) := by decide +kernel
theorem dL_law_513 : decode cL_law 513 = .ok (.aload_n 0, 1) := by decide +kernel
theorem dL_law_514 : decode cL_law 514 = .ok (.iload_n 3, 1) := by decide +kernel
theorem dL_law_515 : decode cL_law 515 = .ok (.bipush 7, 2) := by decide +kernel
theorem dL_law_517 : decode cL_law 517 = .ok (.iadd, 1) := by decide +kernel
theorem dL_law_518 : decode cL_law 518 = .ok (.iaload, 1) := by decide +kernel
theorem dL_law_519 : decode cL_law 519 = .ok (.aload_n 0, 1) := by decide +kernel
theorem dL_law_520 : decode cL_law 520 = .ok (.iload_n 3, 1) := by decide +kernel
theorem dL_law_521 : decode cL_law 521 = .ok (.bipush 8, 2) := by decide +kernel
theorem dL_law_523 : decode cL_law 523 = .ok (.iadd, 1) := by decide +kernel
theorem dL_law_524 : decode cL_law 524 = .ok (.iaload, 1) := by decide +kernel
theorem dL_law_525 : decode cL_law 525 = .ok (.invokevirtual 62, 3) := by decide +kernel
theorem dL_law_528 : decode cL_law 528 = .ok (.if_icmp .eq 254, 3) := by decide +kernel
theorem dL_law_531 : decode cL_law 531 = .ok (.iconst 0, 1) := by decide +kernel
theorem dL_law_532 : decode cL_law 532 = .ok (.ireturn, 1) := by decide +kernel
theorem dL_law_533 : decode cL_law 533 = .ok (.aload_n 1, 1) := by decide +kernel
theorem dL_law_534 : decode cL_law 534 = .ok (.aload_n 0, 1) := by decide +kernel
theorem dL_law_535 : decode cL_law 535 = .ok (.iload_n 3, 1) := by decide +kernel
theorem dL_law_536 : decode cL_law 536 = .ok (.iconst 1, 1) := by decide +kernel
theorem dL_law_537 : decode cL_law 537 = .ok (.iadd, 1) := by decide +kernel
theorem dL_law_538 : decode cL_law 538 = .ok (.iaload, 1) := by decide +kernel
theorem dL_law_539 : decode cL_law 539 = .ok (.invokevirtual 63, 3) := by decide +kernel
theorem dL_law_542 : decode cL_law 542 = .ok (.aload_n 2, 1) := by decide +kernel
theorem dL_law_543 : decode cL_law 543 = .ok (.aload_n 0, 1) := by decide +kernel
theorem dL_law_544 : decode cL_law 544 = .ok (.iload_n 3, 1) := by decide +kernel
theorem dL_law_545 : decode cL_law 545 = .ok (.iconst 1, 1) := by decide +kernel
theorem dL_law_546 : decode cL_law 546 = .ok (.iadd, 1) := by decide +kernel
theorem dL_law_547 : decode cL_law 547 = .ok (.iaload, 1) := by decide +kernel
theorem dL_law_548 : decode cL_law 548 = .ok (.invokevirtual 66, 3) := by decide +kernel
theorem dL_law_551 : decode cL_law 551 = .ok (.if_icmp .eq 231, 3) := by decide +kernel
theorem dL_law_554 : decode cL_law 554 = .ok (.iconst 0, 1) := by decide +kernel
theorem dL_law_555 : decode cL_law 555 = .ok (.ireturn, 1) := by decide +kernel
theorem dL_law_556 : decode cL_law 556 = .ok (.aload_n 1, 1) := by decide +kernel
theorem dL_law_557 : decode cL_law 557 = .ok (.invokevirtual 67, 3) := by decide +kernel
theorem dL_law_560 : decode cL_law 560 = .ok (.aload_n 2, 1) := by decide +kernel
theorem dL_law_561 : decode cL_law 561 = .ok (.invokevirtual 70, 3) := by decide +kernel
theorem dL_law_564 : decode cL_law 564 = .ok (.if_icmp .eq 218, 3) := by decide +kernel
theorem dL_law_567 : decode cL_law 567 = .ok (.iconst 0, 1) := by decide +kernel
theorem dL_law_568 : decode cL_law 568 = .ok (.ireturn, 1) := by decide +kernel
theorem dL_law_569 : decode cL_law 569 = .ok (.aload_n 1, 1) := by decide +kernel
theorem dL_law_570 : decode cL_law 570 = .ok (.invokevirtual 71, 3) := by decide +kernel
theorem dL_law_573 : decode cL_law 573 = .ok (.aload_n 2, 1) := by decide +kernel
theorem dL_law_574 : decode cL_law 574 = .ok (.invokevirtual 74, 3) := by decide +kernel
theorem dL_law_577 : decode cL_law 577 = .ok (.if_icmp .eq 205, 3) := by decide +kernel
theorem dL_law_580 : decode cL_law 580 = .ok (.iconst 0, 1) := by decide +kernel
theorem dL_law_581 : decode cL_law 581 = .ok (.ireturn, 1) := by decide +kernel
theorem dL_law_582 : decode cL_law 582 = .ok (.aload_n 1, 1) := by decide +kernel
theorem dL_law_583 : decode cL_law 583 = .ok (.aload_n 0, 1) := by decide +kernel
theorem dL_law_584 : decode cL_law 584 = .ok (.iload_n 3, 1) := by decide +kernel
theorem dL_law_585 : decode cL_law 585 = .ok (.iconst 1, 1) := by decide +kernel
theorem dL_law_586 : decode cL_law 586 = .ok (.iadd, 1) := by decide +kernel
theorem dL_law_587 : decode cL_law 587 = .ok (.iaload, 1) := by decide +kernel
theorem dL_law_588 : decode cL_law 588 = .ok (.invokevirtual 75, 3) := by decide +kernel
theorem dL_law_591 : decode cL_law 591 = .ok (.aload_n 2, 1) := by decide +kernel
theorem dL_law_592 : decode cL_law 592 = .ok (.aload_n 0, 1) := by decide +kernel
theorem dL_law_593 : decode cL_law 593 = .ok (.iload_n 3, 1) := by decide +kernel
theorem dL_law_594 : decode cL_law 594 = .ok (.iconst 1, 1) := by decide +kernel
theorem dL_law_595 : decode cL_law 595 = .ok (.iadd, 1) := by decide +kernel
theorem dL_law_596 : decode cL_law 596 = .ok (.iaload, 1) := by decide +kernel
theorem dL_law_597 : decode cL_law 597 = .ok (.invokevirtual 78, 3) := by decide +kernel
theorem dL_law_600 : decode cL_law 600 = .ok (.if_icmp .eq 182, 3) := by decide +kernel
theorem dL_law_603 : decode cL_law 603 = .ok (.iconst 0, 1) := by decide +kernel
theorem dL_law_604 : decode cL_law 604 = .ok (.ireturn, 1) := by decide +kernel
theorem dL_law_605 : decode cL_law 605 = .ok (.aload_n 1, 1) := by decide +kernel
theorem dL_law_606 : decode cL_law 606 = .ok (.aload_n 0, 1) := by decide +kernel
theorem dL_law_607 : decode cL_law 607 = .ok (.iload_n 3, 1) := by decide +kernel
theorem dL_law_608 : decode cL_law 608 = .ok (.iconst 1, 1) := by decide +kernel
theorem dL_law_609 : decode cL_law 609 = .ok (.iadd, 1) := by decide +kernel
theorem dL_law_610 : decode cL_law 610 = .ok (.iaload, 1) := by decide +kernel
theorem dL_law_611 : decode cL_law 611 = .ok (.invokevirtual 79, 3) := by decide +kernel
theorem dL_law_614 : decode cL_law 614 = .ok (.aload_n 2, 1) := by decide +kernel
theorem dL_law_615 : decode cL_law 615 = .ok (.aload_n 0, 1) := by decide +kernel
theorem dL_law_616 : decode cL_law 616 = .ok (.iload_n 3, 1) := by decide +kernel
theorem dL_law_617 : decode cL_law 617 = .ok (.iconst 1, 1) := by decide +kernel
theorem dL_law_618 : decode cL_law 618 = .ok (.iadd, 1) := by decide +kernel
theorem dL_law_619 : decode cL_law 619 = .ok (.iaload, 1) := by decide +kernel
theorem dL_law_620 : decode cL_law 620 = .ok (.invokevirtual 82, 3) := by decide +kernel
theorem dL_law_623 : decode cL_law 623 = .ok (.if_icmp .eq 159, 3) := by decide +kernel
theorem dL_law_626 : decode cL_law 626 = .ok (.iconst 0, 1) := by decide +kernel
theorem dL_law_627 : decode cL_law 627 = .ok (.ireturn, 1) := by decide +kernel
theorem dL_law_628 : decode cL_law 628 = .ok (.aload_n 1, 1) := by decide +kernel
theorem dL_law_629 : decode cL_law 629 = .ok (.aload_n 0, 1) := by decide +kernel
theorem dL_law_630 : decode cL_law 630 = .ok (.iload_n 3, 1) := by decide +kernel
theorem dL_law_631 : decode cL_law 631 = .ok (.iconst 1, 1) := by decide +kernel
theorem dL_law_632 : decode cL_law 632 = .ok (.iadd, 1) := by decide +kernel
theorem dL_law_633 : decode cL_law 633 = .ok (.iaload, 1) := by decide +kernel
theorem dL_law_634 : decode cL_law 634 = .ok (.invokevirtual 83, 3) := by decide +kernel
theorem dL_law_637 : decode cL_law 637 = .ok (.aload_n 2, 1) := by decide +kernel
theorem dL_law_638 : decode cL_law 638 = .ok (.aload_n 0, 1) := by decide +kernel
theorem dL_law_639 : decode cL_law 639 = .ok (.iload_n 3, 1) := by decide +kernel
theorem dL_law_640 : decode cL_law 640 = .ok (.iconst 1, 1) := by decide +kernel
theorem dL_law_641 : decode cL_law 641 = .ok (.iadd, 1) := by decide +kernel
theorem dL_law_642 : decode cL_law 642 = .ok (.iaload, 1) := by decide +kernel
theorem dL_law_643 : decode cL_law 643 = .ok (.invokevirtual 86, 3) := by decide +kernel
theorem dL_law_646 : decode cL_law 646 = .ok (.if_icmp .eq 136, 3) := by decide +kernel
theorem dL_law_649 : decode cL_law 649 = .ok (.iconst 0, 1) := by decide +kernel
theorem dL_law_650 : decode cL_law 650 = .ok (.ireturn, 1) := by decide +kernel
theorem dL_law_651 : decode cL_law 651 = .ok (.aload_n 1, 1) := by decide +kernel
theorem dL_law_652 : decode cL_law 652 = .ok (.invokevirtual 87, 3) := by decide +kernel
theorem dL_law_655 : decode cL_law 655 = .ok (.aload_n 2, 1) := by decide +kernel
theorem dL_law_656 : decode cL_law 656 = .ok (.invokevirtual 90, 3) := by decide +kernel
theorem dL_law_659 : decode cL_law 659 = .ok (.if_icmp .eq 123, 3) := by decide +kernel
theorem dL_law_662 : decode cL_law 662 = .ok (.iconst 0, 1) := by decide +kernel
theorem dL_law_663 : decode cL_law 663 = .ok (.ireturn, 1) := by decide +kernel
theorem dL_law_664 : decode cL_law 664 = .ok (.aload_n 1, 1) := by decide +kernel
theorem dL_law_665 : decode cL_law 665 = .ok (.aload_n 0, 1) := by decide +kernel
theorem dL_law_666 : decode cL_law 666 = .ok (.iload_n 3, 1) := by decide +kernel
theorem dL_law_667 : decode cL_law 667 = .ok (.iconst 1, 1) := by decide +kernel
theorem dL_law_668 : decode cL_law 668 = .ok (.iadd, 1) := by decide +kernel
theorem dL_law_669 : decode cL_law 669 = .ok (.iaload, 1) := by decide +kernel
theorem dL_law_670 : decode cL_law 670 = .ok (.aload_n 0, 1) := by decide +kernel
theorem dL_law_671 : decode cL_law 671 = .ok (.iload_n 3, 1) := by decide +kernel
theorem dL_law_672 : decode cL_law 672 = .ok (.iconst 2, 1) := by decide +kernel
theorem dL_law_673 : decode cL_law 673 = .ok (.iadd, 1) := by decide +kernel
theorem dL_law_674 : decode cL_law 674 = .ok (.iaload, 1) := by decide +kernel
theorem dL_law_675 : decode cL_law 675 = .ok (.ifCond .eq 7, 3) := by decide +kernel
theorem dL_law_678 : decode cL_law 678 = .ok (.iconst 1, 1) := by decide +kernel
theorem dL_law_679 : decode cL_law 679 = .ok (.goto 4, 3) := by decide +kernel
theorem dL_law_682 : decode cL_law 682 = .ok (.iconst 0, 1) := by decide +kernel
theorem dL_law_683 : decode cL_law 683 = .ok (.invokevirtual 91, 3) := by decide +kernel
theorem dL_law_686 : decode cL_law 686 = .ok (.aload_n 2, 1) := by decide +kernel
theorem dL_law_687 : decode cL_law 687 = .ok (.aload_n 0, 1) := by decide +kernel
theorem dL_law_688 : decode cL_law 688 = .ok (.iload_n 3, 1) := by decide +kernel
theorem dL_law_689 : decode cL_law 689 = .ok (.iconst 1, 1) := by decide +kernel
theorem dL_law_690 : decode cL_law 690 = .ok (.iadd, 1) := by decide +kernel
theorem dL_law_691 : decode cL_law 691 = .ok (.iaload, 1) := by decide +kernel
theorem dL_law_692 : decode cL_law 692 = .ok (.aload_n 0, 1) := by decide +kernel
theorem dL_law_693 : decode cL_law 693 = .ok (.iload_n 3, 1) := by decide +kernel
theorem dL_law_694 : decode cL_law 694 = .ok (.iconst 2, 1) := by decide +kernel
theorem dL_law_695 : decode cL_law 695 = .ok (.iadd, 1) := by decide +kernel
theorem dL_law_696 : decode cL_law 696 = .ok (.iaload, 1) := by decide +kernel
theorem dL_law_697 : decode cL_law 697 = .ok (.ifCond .eq 7, 3) := by decide +kernel
theorem dL_law_700 : decode cL_law 700 = .ok (.iconst 1, 1) := by decide +kernel
theorem dL_law_701 : decode cL_law 701 = .ok (.goto 4, 3) := by decide +kernel
theorem dL_law_704 : decode cL_law 704 = .ok (.iconst 0, 1) := by decide +kernel
theorem dL_law_705 : decode cL_law 705 = .ok (.invokevirtual 94, 3) := by decide +kernel
theorem dL_law_708 : decode cL_law 708 = .ok (.if_icmp .eq 74, 3) := by decide +kernel
theorem dL_law_711 : decode cL_law 711 = .ok (.iconst 0, 1) := by decide +kernel
theorem dL_law_712 : decode cL_law 712 = .ok (.ireturn, 1) := by decide +kernel
theorem dL_law_713 : decode cL_law 713 = .ok (.aload_n 1, 1) := by decide +kernel
theorem dL_law_714 : decode cL_law 714 = .ok (.aload_n 0, 1) := by decide +kernel
theorem dL_law_715 : decode cL_law 715 = .ok (.iload_n 3, 1) := by decide +kernel
theorem dL_law_716 : decode cL_law 716 = .ok (.iconst 1, 1) := by decide +kernel
theorem dL_law_717 : decode cL_law 717 = .ok (.iadd, 1) := by decide +kernel
theorem dL_law_718 : decode cL_law 718 = .ok (.iaload, 1) := by decide +kernel
theorem dL_law_719 : decode cL_law 719 = .ok (.invokevirtual 95, 3) := by decide +kernel
theorem dL_law_722 : decode cL_law 722 = .ok (.aload_n 2, 1) := by decide +kernel
theorem dL_law_723 : decode cL_law 723 = .ok (.aload_n 0, 1) := by decide +kernel
theorem dL_law_724 : decode cL_law 724 = .ok (.iload_n 3, 1) := by decide +kernel
theorem dL_law_725 : decode cL_law 725 = .ok (.iconst 1, 1) := by decide +kernel
theorem dL_law_726 : decode cL_law 726 = .ok (.iadd, 1) := by decide +kernel
theorem dL_law_727 : decode cL_law 727 = .ok (.iaload, 1) := by decide +kernel
theorem dL_law_728 : decode cL_law 728 = .ok (.invokevirtual 98, 3) := by decide +kernel
theorem dL_law_731 : decode cL_law 731 = .ok (.if_icmp .eq 51, 3) := by decide +kernel
theorem dL_law_734 : decode cL_law 734 = .ok (.iconst 0, 1) := by decide +kernel
theorem dL_law_735 : decode cL_law 735 = .ok (.ireturn, 1) := by decide +kernel
theorem dL_law_736 : decode cL_law 736 = .ok (.aload_n 1, 1) := by decide +kernel
theorem dL_law_737 : decode cL_law 737 = .ok (.aload_n 0, 1) := by decide +kernel
theorem dL_law_738 : decode cL_law 738 = .ok (.iload_n 3, 1) := by decide +kernel
theorem dL_law_739 : decode cL_law 739 = .ok (.iconst 1, 1) := by decide +kernel
theorem dL_law_740 : decode cL_law 740 = .ok (.iadd, 1) := by decide +kernel
theorem dL_law_741 : decode cL_law 741 = .ok (.iaload, 1) := by decide +kernel
theorem dL_law_742 : decode cL_law 742 = .ok (.invokevirtual 99, 3) := by decide +kernel
theorem dL_law_745 : decode cL_law 745 = .ok (.aload_n 2, 1) := by decide +kernel
theorem dL_law_746 : decode cL_law 746 = .ok (.aload_n 0, 1) := by decide +kernel
theorem dL_law_747 : decode cL_law 747 = .ok (.iload_n 3, 1) := by decide +kernel
theorem dL_law_748 : decode cL_law 748 = .ok (.iconst 1, 1) := by decide +kernel
theorem dL_law_749 : decode cL_law 749 = .ok (.iadd, 1) := by decide +kernel
theorem dL_law_750 : decode cL_law 750 = .ok (.iaload, 1) := by decide +kernel
theorem dL_law_751 : decode cL_law 751 = .ok (.invokevirtual 102, 3) := by decide +kernel
theorem dL_law_754 : decode cL_law 754 = .ok (.if_icmp .eq 28, 3) := by decide +kernel
theorem dL_law_757 : decode cL_law 757 = .ok (.iconst 0, 1) := by decide +kernel
theorem dL_law_758 : decode cL_law 758 = .ok (.ireturn, 1) := by decide +kernel
theorem dL_law_759 : decode cL_law 759 = .ok (.aload_n 1, 1) := by decide +kernel
theorem dL_law_760 : decode cL_law 760 = .ok (.aload_n 0, 1) := by decide +kernel
theorem dL_law_761 : decode cL_law 761 = .ok (.iload_n 3, 1) := by decide +kernel
theorem dL_law_762 : decode cL_law 762 = .ok (.iconst 1, 1) := by decide +kernel
theorem dL_law_763 : decode cL_law 763 = .ok (.iadd, 1) := by decide +kernel
theorem dL_law_764 : decode cL_law 764 = .ok (.iaload, 1) := by decide +kernel
theorem dL_law_765 : decode cL_law 765 = .ok (.invokevirtual 103, 3) := by decide +kernel
theorem dL_law_768 : decode cL_law 768 = .ok (.aload_n 2, 1) := by decide +kernel
theorem dL_law_769 : decode cL_law 769 = .ok (.aload_n 0, 1) := by decide +kernel
theorem dL_law_770 : decode cL_law 770 = .ok (.iload_n 3, 1) := by decide +kernel
theorem dL_law_771 : decode cL_law 771 = .ok (.iconst 1, 1) := by decide +kernel
theorem dL_law_772 : decode cL_law 772 = .ok (.iadd, 1) := by decide +kernel
theorem dL_law_773 : decode cL_law 773 = .ok (.iaload, 1) := by decide +kernel
theorem dL_law_774 : decode cL_law 774 = .ok (.invokevirtual 106, 3) := by decide +kernel
theorem dL_law_777 : decode cL_law 777 = .ok (.if_icmp .eq 5, 3) := by decide +kernel
theorem dL_law_780 : decode cL_law 780 = .ok (.iconst 0, 1) := by decide +kernel
theorem dL_law_781 : decode cL_law 781 = .ok (.ireturn, 1) := by decide +kernel
theorem dL_law_782 : decode cL_law 782 = .ok (.iinc 3 9, 3) := by decide +kernel
theorem dL_law_785 : decode cL_law 785 = .ok (.goto (-767), 3) := by decide +kernel
theorem dL_law_788 : decode cL_law 788 = .ok (.iconst 1, 1) := by decide +kernel
theorem dL_law_789 : decode cL_law 789 = .ok (.ireturn, 1) := by decide +kernel
abbrev vwCl : List vw_C := [(RX0, TX0, 2), (RX1, TX1, 2), (RX2, TX2, 8), (RX3, TX3, 4), (RX4, TX4, 13), (RX5, TX5, 10), (RX6, TX6, 35)]
end
section
/-! A judgement over the kit's W whose world is ONE list of cells by number: WP X pc lv st k n h Q. -/
abbrev Mem : Type := Nat → Nat → Int32
/-- the heap by cell numbers: (kind, size) of each cell; its references; its ints. Kinds 0..6: objects of vwCl; 7: int[]; 8: Command[] -/
abbrev Hp : Type := List (Nat × Nat) × (Nat → Nat → Option Nat) × Mem
/-- a method: name, bytes, locals, return type, (frames, locals' words), (cells, slots) -/
abbrev MX : Type := MethodName × ByteArray × Nat × Option FieldType × (Nat × Nat) × (Nat × Nat)
def mxR (X : MX) : Room := { frames := X.2.2.2.2.1.1, cells := X.2.2.2.2.2.1, slots := X.2.2.2.2.2.2, locals := X.2.2.2.2.1.2 }
def gG : List Cond := lw_tbl.filter goodWord
def mxW (X : MX) : List Cond := Cond.code X.1 X.2.1 X.2.2.1 X.2.2.2.1 :: gG
def tyA : Nat → Nat → FieldType := fun ci => match ci with
  | 0 => tyX0
  | 1 => tyX1
  | 2 => tyX2
  | 3 => tyX3
  | 4 => tyX4
  | 5 => tyX5
  | 6 => tyX6
  | _ => fun _ => .int
def frefT : FieldType → Bool
  | .int => false
  | .boolean => false
  | _ => true
def fref (ci k : Nat) : Bool := frefT (tyA ci k)
def fv (ad : Nat → Nat) (h : Hp) (a ci k : Nat) : Value := if fref ci k = true then va_rf ((h.2.1 a k).map ad) else .int (h.2.2 a k)
def cel (cI cC : ClassId) (ad : Nat → Nat) (h : Hp) (a : Nat) : va_E := match h.1[a]? with
  | none => .inr (0, [])
  | some q => if q.1 = 7 then .inl (cI, q.2, .inl (h.2.2 a)) else if q.1 = 8 then .inl (cC, q.2, .inr (.inr (.inr (.inr (fun j => (h.2.1 a j).map ad))))) else .inr (q.1, (List.range q.2).map (fv ad h a q.1))
def wld (cI cC : ClassId) (ad : Nat → Nat) (h : Hp) : va_W := (List.range h.1.length).map (fun a => (ad a, cel cI cC ad h a))
def cv (ad : Nat → Nat) (v : Value) : Value := match v with
  | .ref a => .ref (ad a)
  | w => w
def upd2 (M : Mem) (a k : Nat) (x : Int32) : Mem := fun b => if b = a then upd (M a) k x else M b
def updR (Rf : Nat → Nat → Option Nat) (a k : Nat) (x : Option Nat) : Nat → Nat → Option Nat := fun b => if b = a then va_up (Rf a) k x else Rf b
def lh (ls : Array Slot) (nL : Nat) (ad : Nat → Nat) (lv : List (Option Value)) : Prop := ls.size = nL ∧ lv_wf ls ∧ ∀ (i : Nat) (v : Value), lv[i]? = some (some v) → ls[i]? = some (.val (cv ad v))
def tyz (cI cC : ClassId) : List (ClassId × FieldType) := [(cI, .int), (cC, .object "StoragePath$Command")]
/-- the words that a step of the tables keeps, but that aren't 'good' -/
def NW (U : State) : Prop := (∀ a i b n d g, Cond.fieldLinkNest a i b n d g ∈ lw_tbl → va_Nw (.fieldLinkNest a i b n d g) U) ∧ (∀ a i y g, Cond.methodLinkNest a i y g ∈ lw_tbl → va_Nw (.methodLinkNest a i y g) U) ∧ ∀ C, Cond.arrayOver (.object C) ∈ lw_tbl → va_AO C U
theorem NW.warm {s U : State} (hW : s.WarmedH U.vm) (h : NW s) : NW U := ⟨fun a i b n d g q => va_Nw.warmF hW (h.1 a i b n d g q), fun a i y g q => va_Nw.warmM hW (h.2.1 a i y g q), fun C q => va_AO.moved hW.alike (h.2.2 C q)⟩
theorem NW.same {s U : State} (e : s.vm = U.vm) (h : NW s) : NW U := ⟨fun a i b n d g q => va_Nw.same rfl e (h.1 a i b n d g q), fun a i y g q => va_Nw.same rfl e (h.2.1 a i y g q), fun C q => va_AO.moved (by rw [e]; exact Vm.Alike.refl _) (h.2.2 C q)⟩
/-- what holds all through a method -/
def Cx (X : MX) (p : Program) (s : State) (m : MethodId) (args : Array Value) (meth : Method) (c : Code) (D : va_G) (cI cC : ClassId) (A : Nat → Prop) : Prop :=
  p.tables.exec = Jvm.exec ∧ c.code = X.2.1 ∧ meth.sig.returnType = X.2.2.2.1 ∧ c.maxLocals = X.2.2.1 ∧ s.vm.findClass X.1.cls = some m.cls ∧ (∀ w ∈ gG, w.before args s = true) ∧ meth.locks = false ∧ meth.name = X.1.name ∧ NW s ∧ va_K D vwCl (tyz cI cC) s ∧ ∀ q : Nat, s.heap.size ≤ q → A q
/-- the heap as it stands -/
def Hx (X : MX) (s : State) (D : va_G) (cI cC : ClassId) (A : Nat → Prop) (ad0 : Nat → Nat) (n0 : Nat) (ad : Nat → Nat) (h : Hp) (H : Heap) (locs : List Loc) : Prop :=
  (∀ a, a < n0 → ad a = ad0 a) ∧ n0 ≤ h.1.length ∧ (X.2.2.2.2.2.1 = 0 → ad = ad0) ∧ va_P D vwCl (wld cI cC ad h) H ∧ va_D A (wld cI cC ad h) ∧ va_S A s.heap H locs
/-- how a method ends -/
def Qw (X : MX) (D : va_G) (cI cC : ClassId) (A : Nat → Prop) (ad0 : Nat → Nat) (n0 : Nat) (Q : Option Value → Hp → Prop) : Array Value → State → Outcome → State → Prop := fun _ st oc t =>
  (∃ (r : Option Value) (h : Hp) (ad : Nat → Nat), oc = .returned (r.map (cv ad)) ∧ Q r h ∧ (∀ a, a < n0 → ad a = ad0 a) ∧ n0 ≤ h.1.length ∧ (X.2.2.2.2.2.1 = 0 → ad = ad0) ∧ va_P D vwCl (wld cI cC ad h) t.heap ∧ va_D A (wld cI cC ad h)) ∧ va_F A st t
def WP (X : MX) (pc : Nat) (lv : List (Option Value)) (st : List Value) (k n : Nat) (h : Hp) (Q : Option Value → Hp → Prop) : Prop :=
  ∀ (l : Launch) (p : Program) (e : Env) (s : State) (m : MethodId) (args : Array Value) (below : List Frame) (meth : Method) (c : Code) (D : va_G) (cI cC : ClassId) (A : Nat → Prop) (ad0 : Nat → Nat) (n0 : Nat) (ad : Nat → Nat) (H : Heap) (locs : List Loc) (ls : Array Slot),
    Cx X p s m args meth c D cI cC A → Hx X s D cI cC A ad0 n0 ad h H locs → lh ls X.2.2.1 ad lv →
    W p l e (mxR X) s m args below meth c H locs k n (MQ below (Qw X D cI cC A ad0 n0 Q) args s X.2.2.2.2.2.1 X.2.2.2.2.2.2 A) (F0 m pc ls (st.map (cv ad)))
/-- a method's contract -/
def Con (X : MX) (avs : List Value) (h : Hp) (Q : Option Value → Hp → Prop) : Prop :=
  ∀ (l : Launch) (D : va_G) (cI cC : ClassId) (ad : Nat → Nat) (sz : Nat), Met l X.1 (mxW X) (mxR X) (va_Pc (avs.map (cv ad)) (fun U => U.heap.size = sz ∧ va_P D vwCl (wld cI cC ad h) U.heap ∧ va_K D vwCl (tyz cI cC) U ∧ va_D (fun _ => True) (wld cI cC ad h) ∧ NW U))
    (Qw X D cI cC (va_A (wld cI cC ad h) sz) ad h.1.length Q) X.2.2.2.2.2.1 X.2.2.2.2.2.2 (va_A (wld cI cC ad h) sz)
theorem wld_at {cI cC : ClassId} {ad : Nat → Nat} {h : Hp} {a : Nat} (ha : a < h.1.length) : (wld cI cC ad h)[a]? = some (ad a, cel cI cC ad h a) := by
  simp [wld, ha]
theorem lt_of_get {α : Type} {l : List α} {a : Nat} {q : α} (h : l[a]? = some q) : a < l.length := (List.getElem?_eq_some_iff.mp h).1
theorem wld_len {cI cC : ClassId} {ad : Nat → Nat} {h : Hp} : (wld cI cC ad h).length = h.1.length := by simp [wld]
theorem wld_set {cI cC : ClassId} {ad : Nat → Nat} {h h' : Hp} {a : Nat} {E : va_E} (hl : h'.1.length = h.1.length) (ho : ∀ b, b ≠ a → cel cI cC ad h' b = cel cI cC ad h b) (he : cel cI cC ad h' a = E) : (wld cI cC ad h).set a (ad a, E) = wld cI cC ad h' := by
  apply List.ext_getElem?
  intro i
  by_cases hi : i < h.1.length
  · rw [wld_at (h := h') (by omega), List.getElem?_set]
    by_cases hia : a = i
    · subst hia
      simp [wld_len, hi, he]
    · rw [if_neg hia, wld_at hi, ho i (fun q => hia q.symm)]
  · rw [List.getElem?_eq_none (by rw [List.length_set, wld_len]; omega), List.getElem?_eq_none (by rw [wld_len]; omega)]
theorem cel_o {cI cC : ClassId} {ad : Nat → Nat} {h : Hp} {a ci N : Nat} (hs : h.1[a]? = some (ci, N)) (hc : ci < 7) : cel cI cC ad h a = .inr (ci, (List.range N).map (fv ad h a ci)) := by
  unfold cel
  rw [hs]
  dsimp only
  rw [if_neg (by omega), if_neg (by omega)]
theorem cel_7 {cI cC : ClassId} {ad : Nat → Nat} {h : Hp} {a N : Nat} (hs : h.1[a]? = some (7, N)) : cel cI cC ad h a = .inl (cI, N, .inl (h.2.2 a)) := by
  unfold cel
  rw [hs]
  dsimp only
  rw [if_pos rfl]
theorem cel_8 {cI cC : ClassId} {ad : Nat → Nat} {h : Hp} {a N : Nat} (hs : h.1[a]? = some (8, N)) : cel cI cC ad h a = .inl (cC, N, .inr (.inr (.inr (.inr (fun j => (h.2.1 a j).map ad))))) := by
  unfold cel
  rw [hs]
  dsimp only
  rw [if_neg (by omega), if_pos rfl]
theorem cel_ne {cI cC : ClassId} {ad : Nat → Nat} {S : List (Nat × Nat)} {Rf Rf' : Nat → Nat → Option Nat} {M M' : Mem} {b : Nat} (h1 : Rf' b = Rf b) (h2 : M' b = M b) : cel cI cC ad (S, Rf', M') b = cel cI cC ad (S, Rf, M) b := by
  unfold cel
  dsimp only
  cases S[b]? with
  | none => rfl
  | some q =>
    dsimp only
    rw [h2, h1]
    have : fv ad (S, Rf', M') b q.1 = fv ad (S, Rf, M) b q.1 := by
      funext k
      simp only [fv, h1, h2]
    rw [this]
theorem upd2_s (M : Mem) (a k : Nat) (x : Int32) : upd2 M a k x a = upd (M a) k x := by simp [upd2]
theorem upd2_n {M : Mem} {a k b : Nat} {x : Int32} (h : b ≠ a) : upd2 M a k x b = M b := by simp [upd2, h]
theorem updR_s (M : Nat → Nat → Option Nat) (a k : Nat) (x : Option Nat) : updR M a k x a = va_up (M a) k x := by simp [updR]
theorem updR_n {M : Nat → Nat → Option Nat} {a k b : Nat} {x : Option Nat} (h : b ≠ a) : updR M a k x b = M b := by simp [updR, h]
end
section
section RULES
variable {X : MX} {pc : Nat} {lv : List (Option Value)} {st : List Value} {k n : Nat} {S : List (Nat × Nat)} {Rf : Nat → Nat → Option Nat} {M : Mem} {Q : Option Value → Hp → Prop}
theorem r_iconst (v : Int32) {j : Int} (hd : decode X.2.1 pc = .ok (.iconst j, 1)) (hv : Int32.ofInt j = v) (kk : WP X (pc + 1) lv (.int v :: st) k n (S, Rf, M) Q) : WP X pc lv st k n (S, Rf, M) Q :=
  fun l p e s m args below meth c D cI cC A ad0 n0 ad H locs ls C G L => lv_iconst C.1 C.2.1 hd hv (kk l p e s m args below meth c D cI cC A ad0 n0 ad H locs ls C G L)
theorem r_bipush (v : Int32) {j : Int} (hd : decode X.2.1 pc = .ok (.bipush j, 2)) (hv : (Int8.ofInt j).toInt32 = v) (kk : WP X (pc + 2) lv (.int v :: st) k n (S, Rf, M) Q) : WP X pc lv st k n (S, Rf, M) Q :=
  fun l p e s m args below meth c D cI cC A ad0 n0 ad H locs ls C G L => lv_bipush C.1 C.2.1 hd hv (kk l p e s m args below meth c D cI cC A ad0 n0 ad H locs ls C G L)
theorem r_sipush (v : Int32) {j : Int} (hd : decode X.2.1 pc = .ok (.sipush j, 3)) (hv : (Int16.ofInt j).toInt32 = v) (kk : WP X (pc + 3) lv (.int v :: st) k n (S, Rf, M) Q) : WP X pc lv st k n (S, Rf, M) Q :=
  fun l p e s m args below meth c D cI cC A ad0 n0 ad H locs ls C G L => lv_sipush C.1 C.2.1 hd hv (kk l p e s m args below meth c D cI cC A ad0 n0 ad H locs ls C G L)
theorem r_ldc (v : Int32) {idx : Nat} (hd : decode X.2.1 pc = .ok (.ldc idx, 2)) (hw : Cond.constant X.1.cls idx v ∈ gG) (kk : WP X (pc + 2) lv (.int v :: st) k n (S, Rf, M) Q) : WP X pc lv st k n (S, Rf, M) Q :=
  fun l p e s m args below meth c D cI cC A ad0 n0 ad H locs ls C G L => lv_ldc C.1 C.2.1 C.2.2.2.2.1 (C.2.2.2.2.2.1 _ hw) hd (kk l p e s m args below meth c D cI cC A ad0 n0 ad H locs ls C G L)
theorem r_ldcw (v : Int32) {idx : Nat} (hd : decode X.2.1 pc = .ok (.ldc_w idx, 3)) (hw : Cond.constant X.1.cls idx v ∈ gG) (kk : WP X (pc + 3) lv (.int v :: st) k n (S, Rf, M) Q) : WP X pc lv st k n (S, Rf, M) Q :=
  fun l p e s m args below meth c D cI cC A ad0 n0 ad H locs ls C G L => lv_ldcw C.1 C.2.1 C.2.2.2.2.1 (C.2.2.2.2.2.1 _ hw) hd (kk l p e s m args below meth c D cI cC A ad0 n0 ad H locs ls C G L)
theorem r_null (hd : decode X.2.1 pc = .ok (.aconst_null, 1)) (kk : WP X (pc + 1) lv (.null :: st) k n (S, Rf, M) Q) : WP X pc lv st k n (S, Rf, M) Q :=
  fun l p e s m args below meth c D cI cC A ad0 n0 ad H locs ls C G L => lv_null C.1 C.2.1 hd (kk l p e s m args below meth c D cI cC A ad0 n0 ad H locs ls C G L)
theorem r_iload_n {i : Nat} {x : Int32} {j : Fin 4} (hd : decode X.2.1 pc = .ok (.iload_n j, 1)) (hi : (j : Nat) = i) (hv : lv[i]? = some (some (.int x))) (kk : WP X (pc + 1) lv (.int x :: st) k n (S, Rf, M) Q) : WP X pc lv st k n (S, Rf, M) Q :=
  fun l p e s m args below meth c D cI cC A ad0 n0 ad H locs ls C G L => lv_iload_n C.1 C.2.1 hd hi (L.2.2 i _ hv) (kk l p e s m args below meth c D cI cC A ad0 n0 ad H locs ls C G L)
theorem r_iload {i : Nat} {x : Int32} (hd : decode X.2.1 pc = .ok (.iload i, 2)) (hv : lv[i]? = some (some (.int x))) (kk : WP X (pc + 2) lv (.int x :: st) k n (S, Rf, M) Q) : WP X pc lv st k n (S, Rf, M) Q :=
  fun l p e s m args below meth c D cI cC A ad0 n0 ad H locs ls C G L => lv_iload C.1 C.2.1 hd (L.2.2 i _ hv) (kk l p e s m args below meth c D cI cC A ad0 n0 ad H locs ls C G L)
theorem r_aload_n {i : Nat} {x : Nat} {j : Fin 4} (hd : decode X.2.1 pc = .ok (.aload_n j, 1)) (hi : (j : Nat) = i) (hv : lv[i]? = some (some (.ref x))) (kk : WP X (pc + 1) lv (.ref x :: st) k n (S, Rf, M) Q) : WP X pc lv st k n (S, Rf, M) Q :=
  fun l p e s m args below meth c D cI cC A ad0 n0 ad H locs ls C G L => lv_aload_n C.1 C.2.1 hd hi (L.2.2 i _ hv) (kk l p e s m args below meth c D cI cC A ad0 n0 ad H locs ls C G L)
theorem r_aload {i : Nat} {x : Nat} (hd : decode X.2.1 pc = .ok (.aload i, 2)) (hv : lv[i]? = some (some (.ref x))) (kk : WP X (pc + 2) lv (.ref x :: st) k n (S, Rf, M) Q) : WP X pc lv st k n (S, Rf, M) Q :=
  fun l p e s m args below meth c D cI cC A ad0 n0 ad H locs ls C G L => lv_aload C.1 C.2.1 hd (L.2.2 i _ hv) (kk l p e s m args below meth c D cI cC A ad0 n0 ad H locs ls C G L)
theorem r_aload_nN {i : Nat} {j : Fin 4} (hd : decode X.2.1 pc = .ok (.aload_n j, 1)) (hi : (j : Nat) = i) (hv : lv[i]? = some (some .null)) (kk : WP X (pc + 1) lv (.null :: st) k n (S, Rf, M) Q) : WP X pc lv st k n (S, Rf, M) Q :=
  fun l p e s m args below meth c D cI cC A ad0 n0 ad H locs ls C G L => lv_aload_nN C.1 C.2.1 hd hi (L.2.2 i _ hv) (kk l p e s m args below meth c D cI cC A ad0 n0 ad H locs ls C G L)
theorem lh_list {ls : Array Slot} {nL : Nat} {ad : Nat → Nat} {lv : List (Option Value)} (h : lh ls nL ad lv) : lv_has ls nL ((List.range lv.length).filterMap (fun i => match lv[i]? with
    | some (some v) => some (i, cv ad v)
    | _ => none)) := by
  refine ⟨h.1, h.2.1, fun q hq => ?_⟩
  obtain ⟨i, -, hi⟩ := List.mem_filterMap.mp hq
  cases hx : lv[i]? with
  | none => rw [hx] at hi; cases hi
  | some w =>
    cases w with
    | none => rw [hx] at hi; cases hi
    | some v =>
      rw [hx] at hi
      cases hi
      exact h.2.2 i v hx
theorem cv_cat {ad : Nat → Nat} {v : Value} : (cv ad v).category = v.category := by cases v <;> rfl
theorem lh_store {ls' : Array Slot} {nL : Nat} {ad : Nat → Nat} {lv : List (Option Value)} {i : Nat} {v : Value} (hc : ∀ w, some w ∈ lv → w.category = 1) (h' : lv_has ls' nL ((i, cv ad v) :: ((List.range lv.length).filterMap (fun i => match lv[i]? with
    | some (some v) => some (i, cv ad v)
    | _ => none)).filter (fun q => !(q.1 == i) && !(q.1 + 1 == i && q.2.category == 2)))) : lh ls' nL ad (lv.set i (some v)) := by
  refine ⟨h'.1, h'.2.1, fun j w hj => ?_⟩
  rw [List.getElem?_set] at hj
  by_cases hij : i = j
  · subst hij
    rw [if_pos rfl] at hj
    split at hj
    · cases hj
      exact h'.2.2 (i, cv ad v) List.mem_cons_self
    · cases hj
  · rw [if_neg hij] at hj
    refine h'.2.2 (j, cv ad w) (List.mem_cons_of_mem _ (List.mem_filter.mpr ⟨List.mem_filterMap.mpr ⟨j, List.mem_range.mpr (lt_of_get hj), by rw [hj]⟩, ?_⟩))
    have h1 : w.category = 1 := hc w (List.mem_of_getElem? hj)
    simp [cv_cat, h1, Ne.symm hij]
def okc : List (Option Value) → Bool
  | [] => true
  | none :: t => okc t
  | some v :: t => (v.category == 1) && okc t
theorem okc_ok {lv : List (Option Value)} (h : okc lv = true) : ∀ w, some w ∈ lv → w.category = 1 := by
  induction lv with
  | nil => intro w hw; cases hw
  | cons a t ih =>
    intro w hw
    cases a with
    | none =>
      rcases List.mem_cons.mp hw with q | q
      · cases q
      · exact ih h w q
    | some v =>
      simp only [okc, Bool.and_eq_true, beq_iff_eq] at h
      rcases List.mem_cons.mp hw with q | q
      · cases q
        exact h.1
      · exact ih h.2 w q
theorem r_istore_n {i : Nat} {x : Int32} {j : Fin 4} (hd : decode X.2.1 pc = .ok (.istore_n j, 1)) (hi : (j : Nat) = i) (hc : okc lv = true) (hn : i < X.2.2.1) (kk : WP X (pc + 1) (lv.set i (some (.int x))) st k n (S, Rf, M) Q) : WP X pc lv (.int x :: st) k n (S, Rf, M) Q :=
  fun l p e s m args below meth c D cI cC A ad0 n0 ad H locs ls C G L => lv_istore_n C.1 C.2.1 hd hi (lh_list L) hn rfl (fun ls' h' => kk l p e s m args below meth c D cI cC A ad0 n0 ad H locs ls' C G (lh_store (v := .int x) (okc_ok hc) h'))
theorem r_istore_n0 {a0 : Option Value} {t : List (Option Value)} {x : Int32}  (hd : decode X.2.1 pc = .ok (.istore_n 0, 1)) (hc : okc (a0 :: t) = true) (hn : 0 < X.2.2.1) (kk : WP X (pc + 1) (some (.int x) :: t) st k n (S, Rf, M) Q) : WP X pc (a0 :: t) (.int x :: st) k n (S, Rf, M) Q := r_istore_n (i := 0) hd rfl hc hn kk
theorem r_istore_n1 {a0 a1 : Option Value} {t : List (Option Value)} {x : Int32}  (hd : decode X.2.1 pc = .ok (.istore_n 1, 1)) (hc : okc (a0 :: a1 :: t) = true) (hn : 1 < X.2.2.1) (kk : WP X (pc + 1) (a0 :: some (.int x) :: t) st k n (S, Rf, M) Q) : WP X pc (a0 :: a1 :: t) (.int x :: st) k n (S, Rf, M) Q := r_istore_n (i := 1) hd rfl hc hn kk
theorem r_istore_n2 {a0 a1 a2 : Option Value} {t : List (Option Value)} {x : Int32}  (hd : decode X.2.1 pc = .ok (.istore_n 2, 1)) (hc : okc (a0 :: a1 :: a2 :: t) = true) (hn : 2 < X.2.2.1) (kk : WP X (pc + 1) (a0 :: a1 :: some (.int x) :: t) st k n (S, Rf, M) Q) : WP X pc (a0 :: a1 :: a2 :: t) (.int x :: st) k n (S, Rf, M) Q := r_istore_n (i := 2) hd rfl hc hn kk
theorem r_istore_n3 {a0 a1 a2 a3 : Option Value} {t : List (Option Value)} {x : Int32}  (hd : decode X.2.1 pc = .ok (.istore_n 3, 1)) (hc : okc (a0 :: a1 :: a2 :: a3 :: t) = true) (hn : 3 < X.2.2.1) (kk : WP X (pc + 1) (a0 :: a1 :: a2 :: some (.int x) :: t) st k n (S, Rf, M) Q) : WP X pc (a0 :: a1 :: a2 :: a3 :: t) (.int x :: st) k n (S, Rf, M) Q := r_istore_n (i := 3) hd rfl hc hn kk
theorem r_istore {i : Nat} {x : Int32} (hd : decode X.2.1 pc = .ok (.istore i, 2)) (hc : okc lv = true) (hn : i < X.2.2.1) (kk : WP X (pc + 2) (lv.set i (some (.int x))) st k n (S, Rf, M) Q) : WP X pc lv (.int x :: st) k n (S, Rf, M) Q :=
  fun l p e s m args below meth c D cI cC A ad0 n0 ad H locs ls C G L => lv_istore C.1 C.2.1 hd (lh_list L) hn rfl (fun ls' h' => kk l p e s m args below meth c D cI cC A ad0 n0 ad H locs ls' C G (lh_store (v := .int x) (okc_ok hc) h'))
theorem r_istore_4 {a0 a1 a2 a3 a4 : Option Value} {t : List (Option Value)} {x : Int32} (hd : decode X.2.1 pc = .ok (.istore 4, 2)) (hc : okc (a0 :: a1 :: a2 :: a3 :: a4 :: t) = true) (hn : 4 < X.2.2.1) (kk : WP X (pc + 2) (a0 :: a1 :: a2 :: a3 :: some (.int x) :: t) st k n (S, Rf, M) Q) : WP X pc (a0 :: a1 :: a2 :: a3 :: a4 :: t) (.int x :: st) k n (S, Rf, M) Q := r_istore (i := 4) hd hc hn kk
theorem r_istore_5 {a0 a1 a2 a3 a4 a5 : Option Value} {t : List (Option Value)} {x : Int32} (hd : decode X.2.1 pc = .ok (.istore 5, 2)) (hc : okc (a0 :: a1 :: a2 :: a3 :: a4 :: a5 :: t) = true) (hn : 5 < X.2.2.1) (kk : WP X (pc + 2) (a0 :: a1 :: a2 :: a3 :: a4 :: some (.int x) :: t) st k n (S, Rf, M) Q) : WP X pc (a0 :: a1 :: a2 :: a3 :: a4 :: a5 :: t) (.int x :: st) k n (S, Rf, M) Q := r_istore (i := 5) hd hc hn kk
theorem r_istore_6 {a0 a1 a2 a3 a4 a5 a6 : Option Value} {t : List (Option Value)} {x : Int32} (hd : decode X.2.1 pc = .ok (.istore 6, 2)) (hc : okc (a0 :: a1 :: a2 :: a3 :: a4 :: a5 :: a6 :: t) = true) (hn : 6 < X.2.2.1) (kk : WP X (pc + 2) (a0 :: a1 :: a2 :: a3 :: a4 :: a5 :: some (.int x) :: t) st k n (S, Rf, M) Q) : WP X pc (a0 :: a1 :: a2 :: a3 :: a4 :: a5 :: a6 :: t) (.int x :: st) k n (S, Rf, M) Q := r_istore (i := 6) hd hc hn kk
theorem r_istore_7 {a0 a1 a2 a3 a4 a5 a6 a7 : Option Value} {t : List (Option Value)} {x : Int32} (hd : decode X.2.1 pc = .ok (.istore 7, 2)) (hc : okc (a0 :: a1 :: a2 :: a3 :: a4 :: a5 :: a6 :: a7 :: t) = true) (hn : 7 < X.2.2.1) (kk : WP X (pc + 2) (a0 :: a1 :: a2 :: a3 :: a4 :: a5 :: a6 :: some (.int x) :: t) st k n (S, Rf, M) Q) : WP X pc (a0 :: a1 :: a2 :: a3 :: a4 :: a5 :: a6 :: a7 :: t) (.int x :: st) k n (S, Rf, M) Q := r_istore (i := 7) hd hc hn kk
theorem r_istore_8 {a0 a1 a2 a3 a4 a5 a6 a7 a8 : Option Value} {t : List (Option Value)} {x : Int32} (hd : decode X.2.1 pc = .ok (.istore 8, 2)) (hc : okc (a0 :: a1 :: a2 :: a3 :: a4 :: a5 :: a6 :: a7 :: a8 :: t) = true) (hn : 8 < X.2.2.1) (kk : WP X (pc + 2) (a0 :: a1 :: a2 :: a3 :: a4 :: a5 :: a6 :: a7 :: some (.int x) :: t) st k n (S, Rf, M) Q) : WP X pc (a0 :: a1 :: a2 :: a3 :: a4 :: a5 :: a6 :: a7 :: a8 :: t) (.int x :: st) k n (S, Rf, M) Q := r_istore (i := 8) hd hc hn kk
theorem r_istore_9 {a0 a1 a2 a3 a4 a5 a6 a7 a8 a9 : Option Value} {t : List (Option Value)} {x : Int32} (hd : decode X.2.1 pc = .ok (.istore 9, 2)) (hc : okc (a0 :: a1 :: a2 :: a3 :: a4 :: a5 :: a6 :: a7 :: a8 :: a9 :: t) = true) (hn : 9 < X.2.2.1) (kk : WP X (pc + 2) (a0 :: a1 :: a2 :: a3 :: a4 :: a5 :: a6 :: a7 :: a8 :: some (.int x) :: t) st k n (S, Rf, M) Q) : WP X pc (a0 :: a1 :: a2 :: a3 :: a4 :: a5 :: a6 :: a7 :: a8 :: a9 :: t) (.int x :: st) k n (S, Rf, M) Q := r_istore (i := 9) hd hc hn kk
theorem r_istore_10 {a0 a1 a2 a3 a4 a5 a6 a7 a8 a9 a10 : Option Value} {t : List (Option Value)} {x : Int32} (hd : decode X.2.1 pc = .ok (.istore 10, 2)) (hc : okc (a0 :: a1 :: a2 :: a3 :: a4 :: a5 :: a6 :: a7 :: a8 :: a9 :: a10 :: t) = true) (hn : 10 < X.2.2.1) (kk : WP X (pc + 2) (a0 :: a1 :: a2 :: a3 :: a4 :: a5 :: a6 :: a7 :: a8 :: a9 :: some (.int x) :: t) st k n (S, Rf, M) Q) : WP X pc (a0 :: a1 :: a2 :: a3 :: a4 :: a5 :: a6 :: a7 :: a8 :: a9 :: a10 :: t) (.int x :: st) k n (S, Rf, M) Q := r_istore (i := 10) hd hc hn kk
theorem r_astore_n {i : Nat} {x : Nat} {j : Fin 4} (hd : decode X.2.1 pc = .ok (.astore_n j, 1)) (hi : (j : Nat) = i) (hc : okc lv = true) (hn : i < X.2.2.1) (kk : WP X (pc + 1) (lv.set i (some (.ref x))) st k n (S, Rf, M) Q) : WP X pc lv (.ref x :: st) k n (S, Rf, M) Q :=
  fun l p e s m args below meth c D cI cC A ad0 n0 ad H locs ls C G L => lv_astore_n C.1 C.2.1 hd hi (lh_list L) hn rfl (fun ls' h' => kk l p e s m args below meth c D cI cC A ad0 n0 ad H locs ls' C G (lh_store (v := .ref x) (okc_ok hc) h'))
theorem r_astore_n0 {a0 : Option Value} {t : List (Option Value)} {x : Nat}  (hd : decode X.2.1 pc = .ok (.astore_n 0, 1)) (hc : okc (a0 :: t) = true) (hn : 0 < X.2.2.1) (kk : WP X (pc + 1) (some (.ref x) :: t) st k n (S, Rf, M) Q) : WP X pc (a0 :: t) (.ref x :: st) k n (S, Rf, M) Q := r_astore_n (i := 0) hd rfl hc hn kk
theorem r_astore_n1 {a0 a1 : Option Value} {t : List (Option Value)} {x : Nat}  (hd : decode X.2.1 pc = .ok (.astore_n 1, 1)) (hc : okc (a0 :: a1 :: t) = true) (hn : 1 < X.2.2.1) (kk : WP X (pc + 1) (a0 :: some (.ref x) :: t) st k n (S, Rf, M) Q) : WP X pc (a0 :: a1 :: t) (.ref x :: st) k n (S, Rf, M) Q := r_astore_n (i := 1) hd rfl hc hn kk
theorem r_astore_n2 {a0 a1 a2 : Option Value} {t : List (Option Value)} {x : Nat}  (hd : decode X.2.1 pc = .ok (.astore_n 2, 1)) (hc : okc (a0 :: a1 :: a2 :: t) = true) (hn : 2 < X.2.2.1) (kk : WP X (pc + 1) (a0 :: a1 :: some (.ref x) :: t) st k n (S, Rf, M) Q) : WP X pc (a0 :: a1 :: a2 :: t) (.ref x :: st) k n (S, Rf, M) Q := r_astore_n (i := 2) hd rfl hc hn kk
theorem r_astore_n3 {a0 a1 a2 a3 : Option Value} {t : List (Option Value)} {x : Nat}  (hd : decode X.2.1 pc = .ok (.astore_n 3, 1)) (hc : okc (a0 :: a1 :: a2 :: a3 :: t) = true) (hn : 3 < X.2.2.1) (kk : WP X (pc + 1) (a0 :: a1 :: a2 :: some (.ref x) :: t) st k n (S, Rf, M) Q) : WP X pc (a0 :: a1 :: a2 :: a3 :: t) (.ref x :: st) k n (S, Rf, M) Q := r_astore_n (i := 3) hd rfl hc hn kk
theorem r_astore {i : Nat} {x : Nat} (hd : decode X.2.1 pc = .ok (.astore i, 2)) (hc : okc lv = true) (hn : i < X.2.2.1) (kk : WP X (pc + 2) (lv.set i (some (.ref x))) st k n (S, Rf, M) Q) : WP X pc lv (.ref x :: st) k n (S, Rf, M) Q :=
  fun l p e s m args below meth c D cI cC A ad0 n0 ad H locs ls C G L => lv_astore C.1 C.2.1 hd (lh_list L) hn rfl (fun ls' h' => kk l p e s m args below meth c D cI cC A ad0 n0 ad H locs ls' C G (lh_store (v := .ref x) (okc_ok hc) h'))
theorem r_astore_4 {a0 a1 a2 a3 a4 : Option Value} {t : List (Option Value)} {x : Nat} (hd : decode X.2.1 pc = .ok (.astore 4, 2)) (hc : okc (a0 :: a1 :: a2 :: a3 :: a4 :: t) = true) (hn : 4 < X.2.2.1) (kk : WP X (pc + 2) (a0 :: a1 :: a2 :: a3 :: some (.ref x) :: t) st k n (S, Rf, M) Q) : WP X pc (a0 :: a1 :: a2 :: a3 :: a4 :: t) (.ref x :: st) k n (S, Rf, M) Q := r_astore (i := 4) hd hc hn kk
theorem r_astore_5 {a0 a1 a2 a3 a4 a5 : Option Value} {t : List (Option Value)} {x : Nat} (hd : decode X.2.1 pc = .ok (.astore 5, 2)) (hc : okc (a0 :: a1 :: a2 :: a3 :: a4 :: a5 :: t) = true) (hn : 5 < X.2.2.1) (kk : WP X (pc + 2) (a0 :: a1 :: a2 :: a3 :: a4 :: some (.ref x) :: t) st k n (S, Rf, M) Q) : WP X pc (a0 :: a1 :: a2 :: a3 :: a4 :: a5 :: t) (.ref x :: st) k n (S, Rf, M) Q := r_astore (i := 5) hd hc hn kk
theorem r_astore_6 {a0 a1 a2 a3 a4 a5 a6 : Option Value} {t : List (Option Value)} {x : Nat} (hd : decode X.2.1 pc = .ok (.astore 6, 2)) (hc : okc (a0 :: a1 :: a2 :: a3 :: a4 :: a5 :: a6 :: t) = true) (hn : 6 < X.2.2.1) (kk : WP X (pc + 2) (a0 :: a1 :: a2 :: a3 :: a4 :: a5 :: some (.ref x) :: t) st k n (S, Rf, M) Q) : WP X pc (a0 :: a1 :: a2 :: a3 :: a4 :: a5 :: a6 :: t) (.ref x :: st) k n (S, Rf, M) Q := r_astore (i := 6) hd hc hn kk
theorem r_astore_7 {a0 a1 a2 a3 a4 a5 a6 a7 : Option Value} {t : List (Option Value)} {x : Nat} (hd : decode X.2.1 pc = .ok (.astore 7, 2)) (hc : okc (a0 :: a1 :: a2 :: a3 :: a4 :: a5 :: a6 :: a7 :: t) = true) (hn : 7 < X.2.2.1) (kk : WP X (pc + 2) (a0 :: a1 :: a2 :: a3 :: a4 :: a5 :: a6 :: some (.ref x) :: t) st k n (S, Rf, M) Q) : WP X pc (a0 :: a1 :: a2 :: a3 :: a4 :: a5 :: a6 :: a7 :: t) (.ref x :: st) k n (S, Rf, M) Q := r_astore (i := 7) hd hc hn kk
theorem r_astore_8 {a0 a1 a2 a3 a4 a5 a6 a7 a8 : Option Value} {t : List (Option Value)} {x : Nat} (hd : decode X.2.1 pc = .ok (.astore 8, 2)) (hc : okc (a0 :: a1 :: a2 :: a3 :: a4 :: a5 :: a6 :: a7 :: a8 :: t) = true) (hn : 8 < X.2.2.1) (kk : WP X (pc + 2) (a0 :: a1 :: a2 :: a3 :: a4 :: a5 :: a6 :: a7 :: some (.ref x) :: t) st k n (S, Rf, M) Q) : WP X pc (a0 :: a1 :: a2 :: a3 :: a4 :: a5 :: a6 :: a7 :: a8 :: t) (.ref x :: st) k n (S, Rf, M) Q := r_astore (i := 8) hd hc hn kk
theorem r_astore_9 {a0 a1 a2 a3 a4 a5 a6 a7 a8 a9 : Option Value} {t : List (Option Value)} {x : Nat} (hd : decode X.2.1 pc = .ok (.astore 9, 2)) (hc : okc (a0 :: a1 :: a2 :: a3 :: a4 :: a5 :: a6 :: a7 :: a8 :: a9 :: t) = true) (hn : 9 < X.2.2.1) (kk : WP X (pc + 2) (a0 :: a1 :: a2 :: a3 :: a4 :: a5 :: a6 :: a7 :: a8 :: some (.ref x) :: t) st k n (S, Rf, M) Q) : WP X pc (a0 :: a1 :: a2 :: a3 :: a4 :: a5 :: a6 :: a7 :: a8 :: a9 :: t) (.ref x :: st) k n (S, Rf, M) Q := r_astore (i := 9) hd hc hn kk
theorem r_astore_10 {a0 a1 a2 a3 a4 a5 a6 a7 a8 a9 a10 : Option Value} {t : List (Option Value)} {x : Nat} (hd : decode X.2.1 pc = .ok (.astore 10, 2)) (hc : okc (a0 :: a1 :: a2 :: a3 :: a4 :: a5 :: a6 :: a7 :: a8 :: a9 :: a10 :: t) = true) (hn : 10 < X.2.2.1) (kk : WP X (pc + 2) (a0 :: a1 :: a2 :: a3 :: a4 :: a5 :: a6 :: a7 :: a8 :: a9 :: some (.ref x) :: t) st k n (S, Rf, M) Q) : WP X pc (a0 :: a1 :: a2 :: a3 :: a4 :: a5 :: a6 :: a7 :: a8 :: a9 :: a10 :: t) (.ref x :: st) k n (S, Rf, M) Q := r_astore (i := 10) hd hc hn kk
theorem r_astore_nN {i : Nat} {j : Fin 4} (hd : decode X.2.1 pc = .ok (.astore_n j, 1)) (hi : (j : Nat) = i) (hc : okc lv = true) (hn : i < X.2.2.1) (kk : WP X (pc + 1) (lv.set i (some (.null))) st k n (S, Rf, M) Q) : WP X pc lv (.null :: st) k n (S, Rf, M) Q :=
  fun l p e s m args below meth c D cI cC A ad0 n0 ad H locs ls C G L => lv_astore_nN C.1 C.2.1 hd hi (lh_list L) hn rfl (fun ls' h' => kk l p e s m args below meth c D cI cC A ad0 n0 ad H locs ls' C G (lh_store (v := .null) (okc_ok hc) h'))
theorem r_astore_nN_0 {a0 : Option Value} {t : List (Option Value)}  (hd : decode X.2.1 pc = .ok (.astore_n 0, 1)) (hc : okc (a0 :: t) = true) (hn : 0 < X.2.2.1) (kk : WP X (pc + 1) (some (.null) :: t) st k n (S, Rf, M) Q) : WP X pc (a0 :: t) (.null :: st) k n (S, Rf, M) Q := r_astore_nN (i := 0) hd rfl hc hn kk
theorem r_astore_nN_1 {a0 a1 : Option Value} {t : List (Option Value)}  (hd : decode X.2.1 pc = .ok (.astore_n 1, 1)) (hc : okc (a0 :: a1 :: t) = true) (hn : 1 < X.2.2.1) (kk : WP X (pc + 1) (a0 :: some (.null) :: t) st k n (S, Rf, M) Q) : WP X pc (a0 :: a1 :: t) (.null :: st) k n (S, Rf, M) Q := r_astore_nN (i := 1) hd rfl hc hn kk
theorem r_astore_nN_2 {a0 a1 a2 : Option Value} {t : List (Option Value)}  (hd : decode X.2.1 pc = .ok (.astore_n 2, 1)) (hc : okc (a0 :: a1 :: a2 :: t) = true) (hn : 2 < X.2.2.1) (kk : WP X (pc + 1) (a0 :: a1 :: some (.null) :: t) st k n (S, Rf, M) Q) : WP X pc (a0 :: a1 :: a2 :: t) (.null :: st) k n (S, Rf, M) Q := r_astore_nN (i := 2) hd rfl hc hn kk
theorem r_astore_nN_3 {a0 a1 a2 a3 : Option Value} {t : List (Option Value)}  (hd : decode X.2.1 pc = .ok (.astore_n 3, 1)) (hc : okc (a0 :: a1 :: a2 :: a3 :: t) = true) (hn : 3 < X.2.2.1) (kk : WP X (pc + 1) (a0 :: a1 :: a2 :: some (.null) :: t) st k n (S, Rf, M) Q) : WP X pc (a0 :: a1 :: a2 :: a3 :: t) (.null :: st) k n (S, Rf, M) Q := r_astore_nN (i := 3) hd rfl hc hn kk
theorem r_iinc {i : Nat} {x : Int32} (v : Int32) {j : Int} (hd : decode X.2.1 pc = .ok (.iinc i j, 3)) (hc : okc lv = true) (hn : i < X.2.2.1) (hx : lv[i]? = some (some (.int x))) (hv : x + Int32.ofInt j = v) (kk : WP X (pc + 3) (lv.set i (some (.int v))) st k n (S, Rf, M) Q) : WP X pc lv st k n (S, Rf, M) Q := by
  intro l p e s m args below meth c D cI cC A ad0 n0 ad H locs ls C G L
  have hl := lh_list L
  have hm : (i, Value.int x) ∈ ((List.range lv.length).filterMap (fun i => match lv[i]? with
    | some (some v) => some (i, cv ad v)
    | _ => none)) := List.mem_filterMap.mpr ⟨i, List.mem_range.mpr (lt_of_get hx), by rw [hx]; rfl⟩
  obtain ⟨kp, hk⟩ := List.getElem?_of_mem hm
  exact lv_iinc C.1 C.2.1 hd hl hk hv hn rfl (fun ls' h' => kk l p e s m args below meth c D cI cC A ad0 n0 ad H locs ls' C G (lh_store (v := .int v) (okc_ok hc) h'))
theorem r_iinc_0 {t : List (Option Value)} {x : Int32} (v : Int32) {j : Int} (hd : decode X.2.1 pc = .ok (.iinc 0 j, 3)) (hc : okc (some (.int x) :: t) = true) (hn : 0 < X.2.2.1) (hv : x + Int32.ofInt j = v) (kk : WP X (pc + 3) (some (.int v) :: t) st k n (S, Rf, M) Q) : WP X pc (some (.int x) :: t) st k n (S, Rf, M) Q := r_iinc (i := 0) v hd hc hn rfl hv kk
theorem r_iinc_1 {a0 : Option Value} {t : List (Option Value)} {x : Int32} (v : Int32) {j : Int} (hd : decode X.2.1 pc = .ok (.iinc 1 j, 3)) (hc : okc (a0 :: some (.int x) :: t) = true) (hn : 1 < X.2.2.1) (hv : x + Int32.ofInt j = v) (kk : WP X (pc + 3) (a0 :: some (.int v) :: t) st k n (S, Rf, M) Q) : WP X pc (a0 :: some (.int x) :: t) st k n (S, Rf, M) Q := r_iinc (i := 1) v hd hc hn rfl hv kk
theorem r_iinc_2 {a0 a1 : Option Value} {t : List (Option Value)} {x : Int32} (v : Int32) {j : Int} (hd : decode X.2.1 pc = .ok (.iinc 2 j, 3)) (hc : okc (a0 :: a1 :: some (.int x) :: t) = true) (hn : 2 < X.2.2.1) (hv : x + Int32.ofInt j = v) (kk : WP X (pc + 3) (a0 :: a1 :: some (.int v) :: t) st k n (S, Rf, M) Q) : WP X pc (a0 :: a1 :: some (.int x) :: t) st k n (S, Rf, M) Q := r_iinc (i := 2) v hd hc hn rfl hv kk
theorem r_iinc_3 {a0 a1 a2 : Option Value} {t : List (Option Value)} {x : Int32} (v : Int32) {j : Int} (hd : decode X.2.1 pc = .ok (.iinc 3 j, 3)) (hc : okc (a0 :: a1 :: a2 :: some (.int x) :: t) = true) (hn : 3 < X.2.2.1) (hv : x + Int32.ofInt j = v) (kk : WP X (pc + 3) (a0 :: a1 :: a2 :: some (.int v) :: t) st k n (S, Rf, M) Q) : WP X pc (a0 :: a1 :: a2 :: some (.int x) :: t) st k n (S, Rf, M) Q := r_iinc (i := 3) v hd hc hn rfl hv kk
theorem r_iinc_4 {a0 a1 a2 a3 : Option Value} {t : List (Option Value)} {x : Int32} (v : Int32) {j : Int} (hd : decode X.2.1 pc = .ok (.iinc 4 j, 3)) (hc : okc (a0 :: a1 :: a2 :: a3 :: some (.int x) :: t) = true) (hn : 4 < X.2.2.1) (hv : x + Int32.ofInt j = v) (kk : WP X (pc + 3) (a0 :: a1 :: a2 :: a3 :: some (.int v) :: t) st k n (S, Rf, M) Q) : WP X pc (a0 :: a1 :: a2 :: a3 :: some (.int x) :: t) st k n (S, Rf, M) Q := r_iinc (i := 4) v hd hc hn rfl hv kk
theorem r_iinc_5 {a0 a1 a2 a3 a4 : Option Value} {t : List (Option Value)} {x : Int32} (v : Int32) {j : Int} (hd : decode X.2.1 pc = .ok (.iinc 5 j, 3)) (hc : okc (a0 :: a1 :: a2 :: a3 :: a4 :: some (.int x) :: t) = true) (hn : 5 < X.2.2.1) (hv : x + Int32.ofInt j = v) (kk : WP X (pc + 3) (a0 :: a1 :: a2 :: a3 :: a4 :: some (.int v) :: t) st k n (S, Rf, M) Q) : WP X pc (a0 :: a1 :: a2 :: a3 :: a4 :: some (.int x) :: t) st k n (S, Rf, M) Q := r_iinc (i := 5) v hd hc hn rfl hv kk
theorem r_iinc_6 {a0 a1 a2 a3 a4 a5 : Option Value} {t : List (Option Value)} {x : Int32} (v : Int32) {j : Int} (hd : decode X.2.1 pc = .ok (.iinc 6 j, 3)) (hc : okc (a0 :: a1 :: a2 :: a3 :: a4 :: a5 :: some (.int x) :: t) = true) (hn : 6 < X.2.2.1) (hv : x + Int32.ofInt j = v) (kk : WP X (pc + 3) (a0 :: a1 :: a2 :: a3 :: a4 :: a5 :: some (.int v) :: t) st k n (S, Rf, M) Q) : WP X pc (a0 :: a1 :: a2 :: a3 :: a4 :: a5 :: some (.int x) :: t) st k n (S, Rf, M) Q := r_iinc (i := 6) v hd hc hn rfl hv kk
theorem r_iinc_7 {a0 a1 a2 a3 a4 a5 a6 : Option Value} {t : List (Option Value)} {x : Int32} (v : Int32) {j : Int} (hd : decode X.2.1 pc = .ok (.iinc 7 j, 3)) (hc : okc (a0 :: a1 :: a2 :: a3 :: a4 :: a5 :: a6 :: some (.int x) :: t) = true) (hn : 7 < X.2.2.1) (hv : x + Int32.ofInt j = v) (kk : WP X (pc + 3) (a0 :: a1 :: a2 :: a3 :: a4 :: a5 :: a6 :: some (.int v) :: t) st k n (S, Rf, M) Q) : WP X pc (a0 :: a1 :: a2 :: a3 :: a4 :: a5 :: a6 :: some (.int x) :: t) st k n (S, Rf, M) Q := r_iinc (i := 7) v hd hc hn rfl hv kk
theorem r_iinc_8 {a0 a1 a2 a3 a4 a5 a6 a7 : Option Value} {t : List (Option Value)} {x : Int32} (v : Int32) {j : Int} (hd : decode X.2.1 pc = .ok (.iinc 8 j, 3)) (hc : okc (a0 :: a1 :: a2 :: a3 :: a4 :: a5 :: a6 :: a7 :: some (.int x) :: t) = true) (hn : 8 < X.2.2.1) (hv : x + Int32.ofInt j = v) (kk : WP X (pc + 3) (a0 :: a1 :: a2 :: a3 :: a4 :: a5 :: a6 :: a7 :: some (.int v) :: t) st k n (S, Rf, M) Q) : WP X pc (a0 :: a1 :: a2 :: a3 :: a4 :: a5 :: a6 :: a7 :: some (.int x) :: t) st k n (S, Rf, M) Q := r_iinc (i := 8) v hd hc hn rfl hv kk
theorem r_iinc_9 {a0 a1 a2 a3 a4 a5 a6 a7 a8 : Option Value} {t : List (Option Value)} {x : Int32} (v : Int32) {j : Int} (hd : decode X.2.1 pc = .ok (.iinc 9 j, 3)) (hc : okc (a0 :: a1 :: a2 :: a3 :: a4 :: a5 :: a6 :: a7 :: a8 :: some (.int x) :: t) = true) (hn : 9 < X.2.2.1) (hv : x + Int32.ofInt j = v) (kk : WP X (pc + 3) (a0 :: a1 :: a2 :: a3 :: a4 :: a5 :: a6 :: a7 :: a8 :: some (.int v) :: t) st k n (S, Rf, M) Q) : WP X pc (a0 :: a1 :: a2 :: a3 :: a4 :: a5 :: a6 :: a7 :: a8 :: some (.int x) :: t) st k n (S, Rf, M) Q := r_iinc (i := 9) v hd hc hn rfl hv kk
theorem r_iinc_10 {a0 a1 a2 a3 a4 a5 a6 a7 a8 a9 : Option Value} {t : List (Option Value)} {x : Int32} (v : Int32) {j : Int} (hd : decode X.2.1 pc = .ok (.iinc 10 j, 3)) (hc : okc (a0 :: a1 :: a2 :: a3 :: a4 :: a5 :: a6 :: a7 :: a8 :: a9 :: some (.int x) :: t) = true) (hn : 10 < X.2.2.1) (hv : x + Int32.ofInt j = v) (kk : WP X (pc + 3) (a0 :: a1 :: a2 :: a3 :: a4 :: a5 :: a6 :: a7 :: a8 :: a9 :: some (.int v) :: t) st k n (S, Rf, M) Q) : WP X pc (a0 :: a1 :: a2 :: a3 :: a4 :: a5 :: a6 :: a7 :: a8 :: a9 :: some (.int x) :: t) st k n (S, Rf, M) Q := r_iinc (i := 10) v hd hc hn rfl hv kk
theorem r_iadd {x y : Int32} (hd : decode X.2.1 pc = .ok (.iadd, 1)) (kk : WP X (pc + 1) lv (.int (x + y) :: st) k n (S, Rf, M) Q) : WP X pc lv (.int y :: .int x :: st) k n (S, Rf, M) Q :=
  fun l p e s m args below meth c D cI cC A ad0 n0 ad H locs ls C G L => lv_iadd C.1 C.2.1 hd (kk l p e s m args below meth c D cI cC A ad0 n0 ad H locs ls C G L)
theorem r_isub {x y : Int32} (hd : decode X.2.1 pc = .ok (.isub, 1)) (kk : WP X (pc + 1) lv (.int (x - y) :: st) k n (S, Rf, M) Q) : WP X pc lv (.int y :: .int x :: st) k n (S, Rf, M) Q :=
  fun l p e s m args below meth c D cI cC A ad0 n0 ad H locs ls C G L => lv_isub C.1 C.2.1 hd (kk l p e s m args below meth c D cI cC A ad0 n0 ad H locs ls C G L)
theorem r_imul {x y : Int32} (hd : decode X.2.1 pc = .ok (.imul, 1)) (kk : WP X (pc + 1) lv (.int (x * y) :: st) k n (S, Rf, M) Q) : WP X pc lv (.int y :: .int x :: st) k n (S, Rf, M) Q :=
  fun l p e s m args below meth c D cI cC A ad0 n0 ad H locs ls C G L => lv_imul C.1 C.2.1 hd (kk l p e s m args below meth c D cI cC A ad0 n0 ad H locs ls C G L)
theorem r_iand {x y : Int32} (hd : decode X.2.1 pc = .ok (.iand, 1)) (kk : WP X (pc + 1) lv (.int (x &&& y) :: st) k n (S, Rf, M) Q) : WP X pc lv (.int y :: .int x :: st) k n (S, Rf, M) Q :=
  fun l p e s m args below meth c D cI cC A ad0 n0 ad H locs ls C G L => lv_iand C.1 C.2.1 hd (kk l p e s m args below meth c D cI cC A ad0 n0 ad H locs ls C G L)
theorem r_ior {x y : Int32} (hd : decode X.2.1 pc = .ok (.ior, 1)) (kk : WP X (pc + 1) lv (.int (x ||| y) :: st) k n (S, Rf, M) Q) : WP X pc lv (.int y :: .int x :: st) k n (S, Rf, M) Q :=
  fun l p e s m args below meth c D cI cC A ad0 n0 ad H locs ls C G L => lv_ior C.1 C.2.1 hd (kk l p e s m args below meth c D cI cC A ad0 n0 ad H locs ls C G L)
theorem r_ixor {x y : Int32} (hd : decode X.2.1 pc = .ok (.ixor, 1)) (kk : WP X (pc + 1) lv (.int (x ^^^ y) :: st) k n (S, Rf, M) Q) : WP X pc lv (.int y :: .int x :: st) k n (S, Rf, M) Q :=
  fun l p e s m args below meth c D cI cC A ad0 n0 ad H locs ls C G L => lv_ixor C.1 C.2.1 hd (kk l p e s m args below meth c D cI cC A ad0 n0 ad H locs ls C G L)
theorem r_ishl {x y : Int32} (hd : decode X.2.1 pc = .ok (.ishl, 1)) (kk : WP X (pc + 1) lv (.int (x <<< (y &&& 31)) :: st) k n (S, Rf, M) Q) : WP X pc lv (.int y :: .int x :: st) k n (S, Rf, M) Q :=
  fun l p e s m args below meth c D cI cC A ad0 n0 ad H locs ls C G L => lv_ishl C.1 C.2.1 hd (kk l p e s m args below meth c D cI cC A ad0 n0 ad H locs ls C G L)
theorem r_ishr {x y : Int32} (hd : decode X.2.1 pc = .ok (.ishr, 1)) (kk : WP X (pc + 1) lv (.int (x >>> (y &&& 31)) :: st) k n (S, Rf, M) Q) : WP X pc lv (.int y :: .int x :: st) k n (S, Rf, M) Q :=
  fun l p e s m args below meth c D cI cC A ad0 n0 ad H locs ls C G L => lv_ishr C.1 C.2.1 hd (kk l p e s m args below meth c D cI cC A ad0 n0 ad H locs ls C G L)
theorem r_iushr {x y : Int32} (hd : decode X.2.1 pc = .ok (.iushr, 1)) (kk : WP X (pc + 1) lv (.int (x.toUInt32 >>> (y.toUInt32 &&& Int32.toUInt32 31)).toInt32 :: st) k n (S, Rf, M) Q) : WP X pc lv (.int y :: .int x :: st) k n (S, Rf, M) Q :=
  fun l p e s m args below meth c D cI cC A ad0 n0 ad H locs ls C G L => lv_iushr C.1 C.2.1 hd rfl (kk l p e s m args below meth c D cI cC A ad0 n0 ad H locs ls C G L)
theorem r_idiv {x y : Int32} (hd : decode X.2.1 pc = .ok (.idiv, 1)) (hne : ¬ y = 0) (kk : WP X (pc + 1) lv (.int (x / y) :: st) k n (S, Rf, M) Q) : WP X pc lv (.int y :: .int x :: st) k n (S, Rf, M) Q :=
  fun l p e s m args below meth c D cI cC A ad0 n0 ad H locs ls C G L => lv_idiv C.1 C.2.1 hd hne (kk l p e s m args below meth c D cI cC A ad0 n0 ad H locs ls C G L)
theorem r_irem {x y : Int32} (hd : decode X.2.1 pc = .ok (.irem, 1)) (hne : ¬ y = 0) (kk : WP X (pc + 1) lv (.int (x - x / y * y) :: st) k n (S, Rf, M) Q) : WP X pc lv (.int y :: .int x :: st) k n (S, Rf, M) Q :=
  fun l p e s m args below meth c D cI cC A ad0 n0 ad H locs ls C G L => lv_irem C.1 C.2.1 hd hne (kk l p e s m args below meth c D cI cC A ad0 n0 ad H locs ls C G L)
theorem r_ineg {x : Int32} (hd : decode X.2.1 pc = .ok (.ineg, 1)) (kk : WP X (pc + 1) lv (.int (-x) :: st) k n (S, Rf, M) Q) : WP X pc lv (.int x :: st) k n (S, Rf, M) Q :=
  fun l p e s m args below meth c D cI cC A ad0 n0 ad H locs ls C G L => lv_ineg C.1 C.2.1 hd (kk l p e s m args below meth c D cI cC A ad0 n0 ad H locs ls C G L)
theorem r_dupI {x : Int32} (hd : decode X.2.1 pc = .ok (.dup, 1)) (kk : WP X (pc + 1) lv ((.int x) :: (.int x) :: st) k n (S, Rf, M) Q) : WP X pc lv ((.int x) :: st) k n (S, Rf, M) Q :=
  fun l p e s m args below meth c D cI cC A ad0 n0 ad H locs ls C G L => lv_dup C.1 C.2.1 hd rfl (kk l p e s m args below meth c D cI cC A ad0 n0 ad H locs ls C G L)
theorem r_dupR {x : Nat} (hd : decode X.2.1 pc = .ok (.dup, 1)) (kk : WP X (pc + 1) lv ((.ref x) :: (.ref x) :: st) k n (S, Rf, M) Q) : WP X pc lv ((.ref x) :: st) k n (S, Rf, M) Q :=
  fun l p e s m args below meth c D cI cC A ad0 n0 ad H locs ls C G L => lv_dup C.1 C.2.1 hd rfl (kk l p e s m args below meth c D cI cC A ad0 n0 ad H locs ls C G L)
theorem r_if_eq {x : Int32} {off : Int} (tgt : Nat) (hd : decode X.2.1 pc = .ok (.ifCond .eq off, 3)) (ht : (pc : Int) + off = (tgt : Int)) (kt : x = 0 → WP X tgt lv st k n (S, Rf, M) Q) (kf : ¬ x = 0 → WP X (pc + 3) lv st k n (S, Rf, M) Q) : WP X pc lv (.int x :: st) k n (S, Rf, M) Q :=
  fun l p e s m args below meth c D cI cC A ad0 n0 ad H locs ls C G L => lv_if_eq C.1 C.2.1 hd ht (fun q => kt q l p e s m args below meth c D cI cC A ad0 n0 ad H locs ls C G L) (fun q => kf q l p e s m args below meth c D cI cC A ad0 n0 ad H locs ls C G L)
theorem r_icmp_eq {x y : Int32} {off : Int} (tgt : Nat) (hd : decode X.2.1 pc = .ok (.if_icmp .eq off, 3)) (ht : (pc : Int) + off = (tgt : Int)) (kt : x = y → WP X tgt lv st k n (S, Rf, M) Q) (kf : ¬ x = y → WP X (pc + 3) lv st k n (S, Rf, M) Q) : WP X pc lv (.int y :: .int x :: st) k n (S, Rf, M) Q :=
  fun l p e s m args below meth c D cI cC A ad0 n0 ad H locs ls C G L => lv_icmp_eq C.1 C.2.1 hd ht (fun q => kt q l p e s m args below meth c D cI cC A ad0 n0 ad H locs ls C G L) (fun q => kf q l p e s m args below meth c D cI cC A ad0 n0 ad H locs ls C G L)
theorem r_if_ne {x : Int32} {off : Int} (tgt : Nat) (hd : decode X.2.1 pc = .ok (.ifCond .ne off, 3)) (ht : (pc : Int) + off = (tgt : Int)) (kt : ¬ x = 0 → WP X tgt lv st k n (S, Rf, M) Q) (kf : x = 0 → WP X (pc + 3) lv st k n (S, Rf, M) Q) : WP X pc lv (.int x :: st) k n (S, Rf, M) Q :=
  fun l p e s m args below meth c D cI cC A ad0 n0 ad H locs ls C G L => lv_if_ne C.1 C.2.1 hd ht (fun q => kt q l p e s m args below meth c D cI cC A ad0 n0 ad H locs ls C G L) (fun q => kf q l p e s m args below meth c D cI cC A ad0 n0 ad H locs ls C G L)
theorem r_icmp_ne {x y : Int32} {off : Int} (tgt : Nat) (hd : decode X.2.1 pc = .ok (.if_icmp .ne off, 3)) (ht : (pc : Int) + off = (tgt : Int)) (kt : ¬ x = y → WP X tgt lv st k n (S, Rf, M) Q) (kf : x = y → WP X (pc + 3) lv st k n (S, Rf, M) Q) : WP X pc lv (.int y :: .int x :: st) k n (S, Rf, M) Q :=
  fun l p e s m args below meth c D cI cC A ad0 n0 ad H locs ls C G L => lv_icmp_ne C.1 C.2.1 hd ht (fun q => kt q l p e s m args below meth c D cI cC A ad0 n0 ad H locs ls C G L) (fun q => kf q l p e s m args below meth c D cI cC A ad0 n0 ad H locs ls C G L)
theorem r_if_lt {x : Int32} {off : Int} (tgt : Nat) (hd : decode X.2.1 pc = .ok (.ifCond .lt off, 3)) (ht : (pc : Int) + off = (tgt : Int)) (kt : x < 0 → WP X tgt lv st k n (S, Rf, M) Q) (kf : ¬ x < 0 → WP X (pc + 3) lv st k n (S, Rf, M) Q) : WP X pc lv (.int x :: st) k n (S, Rf, M) Q :=
  fun l p e s m args below meth c D cI cC A ad0 n0 ad H locs ls C G L => lv_if_lt C.1 C.2.1 hd ht (fun q => kt q l p e s m args below meth c D cI cC A ad0 n0 ad H locs ls C G L) (fun q => kf q l p e s m args below meth c D cI cC A ad0 n0 ad H locs ls C G L)
theorem r_icmp_lt {x y : Int32} {off : Int} (tgt : Nat) (hd : decode X.2.1 pc = .ok (.if_icmp .lt off, 3)) (ht : (pc : Int) + off = (tgt : Int)) (kt : x < y → WP X tgt lv st k n (S, Rf, M) Q) (kf : ¬ x < y → WP X (pc + 3) lv st k n (S, Rf, M) Q) : WP X pc lv (.int y :: .int x :: st) k n (S, Rf, M) Q :=
  fun l p e s m args below meth c D cI cC A ad0 n0 ad H locs ls C G L => lv_icmp_lt C.1 C.2.1 hd ht (fun q => kt q l p e s m args below meth c D cI cC A ad0 n0 ad H locs ls C G L) (fun q => kf q l p e s m args below meth c D cI cC A ad0 n0 ad H locs ls C G L)
theorem r_if_ge {x : Int32} {off : Int} (tgt : Nat) (hd : decode X.2.1 pc = .ok (.ifCond .ge off, 3)) (ht : (pc : Int) + off = (tgt : Int)) (kt : 0 ≤ x → WP X tgt lv st k n (S, Rf, M) Q) (kf : ¬ 0 ≤ x → WP X (pc + 3) lv st k n (S, Rf, M) Q) : WP X pc lv (.int x :: st) k n (S, Rf, M) Q :=
  fun l p e s m args below meth c D cI cC A ad0 n0 ad H locs ls C G L => lv_if_ge C.1 C.2.1 hd ht (fun q => kt q l p e s m args below meth c D cI cC A ad0 n0 ad H locs ls C G L) (fun q => kf q l p e s m args below meth c D cI cC A ad0 n0 ad H locs ls C G L)
theorem r_icmp_ge {x y : Int32} {off : Int} (tgt : Nat) (hd : decode X.2.1 pc = .ok (.if_icmp .ge off, 3)) (ht : (pc : Int) + off = (tgt : Int)) (kt : y ≤ x → WP X tgt lv st k n (S, Rf, M) Q) (kf : ¬ y ≤ x → WP X (pc + 3) lv st k n (S, Rf, M) Q) : WP X pc lv (.int y :: .int x :: st) k n (S, Rf, M) Q :=
  fun l p e s m args below meth c D cI cC A ad0 n0 ad H locs ls C G L => lv_icmp_ge C.1 C.2.1 hd ht (fun q => kt q l p e s m args below meth c D cI cC A ad0 n0 ad H locs ls C G L) (fun q => kf q l p e s m args below meth c D cI cC A ad0 n0 ad H locs ls C G L)
theorem r_if_gt {x : Int32} {off : Int} (tgt : Nat) (hd : decode X.2.1 pc = .ok (.ifCond .gt off, 3)) (ht : (pc : Int) + off = (tgt : Int)) (kt : 0 < x → WP X tgt lv st k n (S, Rf, M) Q) (kf : ¬ 0 < x → WP X (pc + 3) lv st k n (S, Rf, M) Q) : WP X pc lv (.int x :: st) k n (S, Rf, M) Q :=
  fun l p e s m args below meth c D cI cC A ad0 n0 ad H locs ls C G L => lv_if_gt C.1 C.2.1 hd ht (fun q => kt q l p e s m args below meth c D cI cC A ad0 n0 ad H locs ls C G L) (fun q => kf q l p e s m args below meth c D cI cC A ad0 n0 ad H locs ls C G L)
theorem r_icmp_gt {x y : Int32} {off : Int} (tgt : Nat) (hd : decode X.2.1 pc = .ok (.if_icmp .gt off, 3)) (ht : (pc : Int) + off = (tgt : Int)) (kt : y < x → WP X tgt lv st k n (S, Rf, M) Q) (kf : ¬ y < x → WP X (pc + 3) lv st k n (S, Rf, M) Q) : WP X pc lv (.int y :: .int x :: st) k n (S, Rf, M) Q :=
  fun l p e s m args below meth c D cI cC A ad0 n0 ad H locs ls C G L => lv_icmp_gt C.1 C.2.1 hd ht (fun q => kt q l p e s m args below meth c D cI cC A ad0 n0 ad H locs ls C G L) (fun q => kf q l p e s m args below meth c D cI cC A ad0 n0 ad H locs ls C G L)
theorem r_if_le {x : Int32} {off : Int} (tgt : Nat) (hd : decode X.2.1 pc = .ok (.ifCond .le off, 3)) (ht : (pc : Int) + off = (tgt : Int)) (kt : x ≤ 0 → WP X tgt lv st k n (S, Rf, M) Q) (kf : ¬ x ≤ 0 → WP X (pc + 3) lv st k n (S, Rf, M) Q) : WP X pc lv (.int x :: st) k n (S, Rf, M) Q :=
  fun l p e s m args below meth c D cI cC A ad0 n0 ad H locs ls C G L => lv_if_le C.1 C.2.1 hd ht (fun q => kt q l p e s m args below meth c D cI cC A ad0 n0 ad H locs ls C G L) (fun q => kf q l p e s m args below meth c D cI cC A ad0 n0 ad H locs ls C G L)
theorem r_icmp_le {x y : Int32} {off : Int} (tgt : Nat) (hd : decode X.2.1 pc = .ok (.if_icmp .le off, 3)) (ht : (pc : Int) + off = (tgt : Int)) (kt : x ≤ y → WP X tgt lv st k n (S, Rf, M) Q) (kf : ¬ x ≤ y → WP X (pc + 3) lv st k n (S, Rf, M) Q) : WP X pc lv (.int y :: .int x :: st) k n (S, Rf, M) Q :=
  fun l p e s m args below meth c D cI cC A ad0 n0 ad H locs ls C G L => lv_icmp_le C.1 C.2.1 hd ht (fun q => kt q l p e s m args below meth c D cI cC A ad0 n0 ad H locs ls C G L) (fun q => kf q l p e s m args below meth c D cI cC A ad0 n0 ad H locs ls C G L)
theorem r_goto {off : Int} (tgt : Nat) (hd : decode X.2.1 pc = .ok (.goto off, 3)) (ht : (pc : Int) + off = (tgt : Int)) (kk : WP X tgt lv st k n (S, Rf, M) Q) : WP X pc lv st k n (S, Rf, M) Q :=
  fun l p e s m args below meth c D cI cC A ad0 n0 ad H locs ls C G L => lv_goto C.1 C.2.1 hd ht (kk l p e s m args below meth c D cI cC A ad0 n0 ad H locs ls C G L)
theorem r_ifnonnull {x : Nat} {off : Int} (tgt : Nat) (hd : decode X.2.1 pc = .ok (.ifnonnull off, 3)) (ht : (pc : Int) + off = (tgt : Int)) (kk : WP X tgt lv st k n (S, Rf, M) Q) : WP X pc lv (.ref x :: st) k n (S, Rf, M) Q :=
  fun l p e s m args below meth c D cI cC A ad0 n0 ad H locs ls C G L => lv_ifnonnull C.1 C.2.1 hd ht (kk l p e s m args below meth c D cI cC A ad0 n0 ad H locs ls C G L)
theorem r_ifnull {x : Nat} {off : Int} (hd : decode X.2.1 pc = .ok (.ifnull off, 3)) (kk : WP X (pc + 3) lv st k n (S, Rf, M) Q) : WP X pc lv (.ref x :: st) k n (S, Rf, M) Q :=
  fun l p e s m args below meth c D cI cC A ad0 n0 ad H locs ls C G L => lv_ifnull C.1 C.2.1 hd (kk l p e s m args below meth c D cI cC A ad0 n0 ad H locs ls C G L)
theorem r_ifnullN {off : Int} (tgt : Nat) (hd : decode X.2.1 pc = .ok (.ifnull off, 3)) (ht : (pc : Int) + off = (tgt : Int)) (kk : WP X tgt lv st k n (S, Rf, M) Q) : WP X pc lv (.null :: st) k n (S, Rf, M) Q :=
  fun l p e s m args below meth c D cI cC A ad0 n0 ad H locs ls C G L => lv_ifnullN C.1 C.2.1 hd ht (kk l p e s m args below meth c D cI cC A ad0 n0 ad H locs ls C G L)
theorem r_ifnonnullN {off : Int} (hd : decode X.2.1 pc = .ok (.ifnonnull off, 3)) (kk : WP X (pc + 3) lv st k n (S, Rf, M) Q) : WP X pc lv (.null :: st) k n (S, Rf, M) Q :=
  fun l p e s m args below meth c D cI cC A ad0 n0 ad H locs ls C G L => lv_ifnonnullN C.1 C.2.1 hd (kk l p e s m args below meth c D cI cC A ad0 n0 ad H locs ls C G L)
theorem r_lookup {dflt : Int} {ps : Array (Int × Int)} {len : Nat} {x : Int32} {off : Int} (tgt : Nat) (hd : decode X.2.1 pc = .ok (.lookupswitch dflt ps, len)) (hp : (ps.toList.zip (ps.toList.drop 1)).all (fun (a, next) => a.1 < next.1) = true) (ho : Op.lookupswitch.offset ps.toList dflt x.toInt = off) (ht : (pc : Int) + off = (tgt : Int)) (kk : WP X tgt lv st k n (S, Rf, M) Q) : WP X pc lv (.int x :: st) k n (S, Rf, M) Q :=
  fun l p e s m args below meth c D cI cC A ad0 n0 ad H locs ls C G L => lv_lookup C.1 C.2.1 hd hp ho ht (kk l p e s m args below meth c D cI cC A ad0 n0 ad H locs ls C G L)
theorem r_tabOut {dflt lo hi : Int} {offs : Array Int} {len : Nat} {x : Int32} (tgt : Nat) (hd : decode X.2.1 pc = .ok (.tableswitch dflt lo hi offs, len)) (hx : x.toInt < lo ∨ hi < x.toInt) (ht : (pc : Int) + dflt = (tgt : Int)) (kk : WP X tgt lv st k n (S, Rf, M) Q) : WP X pc lv (.int x :: st) k n (S, Rf, M) Q :=
  fun l p e s m args below meth c D cI cC A ad0 n0 ad H locs ls C G L => lv_tableOut C.1 C.2.1 hd hx ht (kk l p e s m args below meth c D cI cC A ad0 n0 ad H locs ls C G L)
theorem r_tabIn {dflt lo hi : Int} {offs : Array Int} {len : Nat} {x : Int32} {off : Int} (tgt : Nat) (hd : decode X.2.1 pc = .ok (.tableswitch dflt lo hi offs, len)) (h1 : ¬ x.toInt < lo) (h2 : ¬ hi < x.toInt) (ho : offs[(x.toInt - lo).toNat]? = some off) (ht : (pc : Int) + off = (tgt : Int)) (kk : WP X tgt lv st k n (S, Rf, M) Q) : WP X pc lv (.int x :: st) k n (S, Rf, M) Q :=
  fun l p e s m args below meth c D cI cC A ad0 n0 ad H locs ls C G L => lv_tableIn C.1 C.2.1 hd h1 h2 ho ht (kk l p e s m args below meth c D cI cC A ad0 n0 ad H locs ls C G L)
def lvle : List (Option Value) → List (Option Value) → Prop
  | [], _ => True
  | none :: t', _ :: t => lvle t' t
  | none :: t', [] => lvle t' []
  | some v :: t', some w :: t => v = w ∧ lvle t' t
  | _, _ => False
theorem lvle_ok : ∀ {l' l : List (Option Value)}, lvle l' l → ∀ (i : Nat) (v : Value), l'[i]? = some (some v) → l[i]? = some (some v)
  | [], _, _, i, v, h => by simp at h
  | none :: t', _ :: t, hl, i, v, h => by
    cases i with
    | zero => simp at h
    | succ i => simpa using lvle_ok (l' := t') (l := t) hl i v (by simpa using h)
  | some x :: t', some y :: t, hl, i, v, h => by
    cases i with
    | zero => simp at h; simp [← h, hl.1]
    | succ i => simpa using lvle_ok (l' := t') (l := t) hl.2 i v (by simpa using h)
  | none :: t', [], hl, i, v, h => by
    cases i with
    | zero => simp at h
    | succ i => simpa using lvle_ok (l' := t') (l := []) hl i v (by simpa using h)
  | some _ :: _, [], hl, _, _, _ => absurd hl id
  | some _ :: _, none :: _, hl, _, _, _ => absurd hl id
theorem r_weak {lv' : List (Option Value)} (hw : lvle lv' lv) (kk : WP X pc lv' st k n (S, Rf, M) Q) : WP X pc lv st k n (S, Rf, M) Q :=
  fun l p e s m args below meth c D cI cC A ad0 n0 ad H locs ls C G L => kk l p e s m args below meth c D cI cC A ad0 n0 ad H locs ls C G ⟨L.1, L.2.1, fun i v q => L.2.2 i v (lvle_ok hw i v q)⟩
end RULES
end
section
def clC (ci : Nat) : vw_C := (vwCl[ci]?).getD ("", fun _ => ("", "", "", false), 0)
set_option maxRecDepth 100000 in
theorem cf0 : ∀ w ∈ u_ws (clC 0).1 (clC 0).2.1 (clC 0).2.2, w ∈ gG := fun w h => List.mem_filter.mpr ⟨(show ∀ w ∈ wsX00, w ∈ lw_tbl by decide +kernel) w h, (show ∀ w ∈ wsX00, goodWord w = true by decide +kernel) w h⟩
set_option maxRecDepth 100000 in
theorem cf1 : ∀ w ∈ u_ws (clC 1).1 (clC 1).2.1 (clC 1).2.2, w ∈ gG := fun w h => List.mem_filter.mpr ⟨(show ∀ w ∈ wsX10, w ∈ lw_tbl by decide +kernel) w h, (show ∀ w ∈ wsX10, goodWord w = true by decide +kernel) w h⟩
set_option maxRecDepth 100000 in
theorem cf2 : ∀ w ∈ u_ws (clC 2).1 (clC 2).2.1 (clC 2).2.2, w ∈ gG := fun w h => List.mem_filter.mpr ⟨(show ∀ w ∈ wsX20, w ∈ lw_tbl by decide +kernel) w h, (show ∀ w ∈ wsX20, goodWord w = true by decide +kernel) w h⟩
set_option maxRecDepth 100000 in
theorem cf3 : ∀ w ∈ u_ws (clC 3).1 (clC 3).2.1 (clC 3).2.2, w ∈ gG := fun w h => List.mem_filter.mpr ⟨(show ∀ w ∈ wsX30, w ∈ lw_tbl by decide +kernel) w h, (show ∀ w ∈ wsX30, goodWord w = true by decide +kernel) w h⟩
set_option maxRecDepth 100000 in
theorem cf4 : ∀ w ∈ u_ws (clC 4).1 (clC 4).2.1 (clC 4).2.2, w ∈ gG := fun w h => List.mem_filter.mpr ⟨(show ∀ w ∈ wsX40, w ∈ lw_tbl by decide +kernel) w h, (show ∀ w ∈ wsX40, goodWord w = true by decide +kernel) w h⟩
set_option maxRecDepth 100000 in
theorem cf5 : ∀ w ∈ u_ws (clC 5).1 (clC 5).2.1 (clC 5).2.2, w ∈ gG := fun w h => List.mem_filter.mpr ⟨(show ∀ w ∈ wsX50, w ∈ lw_tbl by decide +kernel) w h, (show ∀ w ∈ wsX50, goodWord w = true by decide +kernel) w h⟩
set_option maxRecDepth 100000 in
theorem cf6 : ∀ w ∈ u_ws (clC 6).1 (clC 6).2.1 (clC 6).2.2, w ∈ gG := fun w h => List.mem_filter.mpr ⟨(show ∀ w ∈ wsX60, w ∈ lw_tbl by decide +kernel) w h, (show ∀ w ∈ wsX60, goodWord w = true by decide +kernel) w h⟩
theorem cfs : ∀ ci, ci < 7 → vwCl[ci]? = some ((clC ci).1, (clC ci).2.1, (clC ci).2.2) ∧ (∀ w ∈ u_ws (clC ci).1 (clC ci).2.1 (clC ci).2.2, w ∈ gG) ∧ (∀ k, k < (clC ci).2.2 → parseFieldDescriptor ((clC ci).2.1 k).2.2.1 = some (tyA ci k)) ∧ (∀ a, a < (clC ci).2.2 → ∀ b, b < (clC ci).2.2 → a ≠ b → ((clC ci).2.1 a).2.1 ≠ ((clC ci).2.1 b).2.1)
  | 0, _ => ⟨rfl, cf0, tyX0_ok, nmX0⟩
  | 1, _ => ⟨rfl, cf1, tyX1_ok, nmX1⟩
  | 2, _ => ⟨rfl, cf2, tyX2_ok, nmX2⟩
  | 3, _ => ⟨rfl, cf3, tyX3_ok, nmX3⟩
  | 4, _ => ⟨rfl, cf4, tyX4_ok, nmX4⟩
  | 5, _ => ⟨rfl, cf5, tyX5_ok, nmX5⟩
  | 6, _ => ⟨rfl, cf6, tyX6_ok, nmX6⟩
  | n + 7, h => absurd h (by omega)
/-- a field reference: the class and the slot that it means -/
def FW (own : String) (idx ci kf : Nat) : Prop := kf < (clC ci).2.2 ∧ ci < 7 ∧ (Cond.fieldLink own idx ((clC ci).2.1 kf).1 ((clC ci).2.1 kf).2.1 ((clC ci).2.1 kf).2.2.1 ∈ gG ∨ ∃ host, Cond.fieldLinkNest own idx ((clC ci).2.1 kf).1 ((clC ci).2.1 kf).2.1 ((clC ci).2.1 kf).2.2.1 host ∈ lw_tbl)
theorem fv_putI {ad : Nat → Nat} {S : List (Nat × Nat)} {Rf : Nat → Nat → Option Nat} {M : Mem} {a ci N kf : Nat} {x : Int32} (hf : fref ci kf = false) : (List.range N).map (fv ad (S, Rf, upd2 M a kf x) a ci) = ((List.range N).map (fv ad (S, Rf, M) a ci)).set kf (.int x) := by
  apply List.ext_getElem?
  intro i
  rw [List.getElem?_set]
  by_cases hi : i < N
  · by_cases hk : kf = i
    · subst hk
      simp [hi, fv, hf, upd2_s, upd]
    · have : ¬ i = kf := fun q => hk q.symm
      simp [hi, fv, upd2_s, upd, hk, this]
  · have hz : (List.range N).length ≤ i := by simpa using hi
    by_cases hk : kf = i
    · subst hk
      simp [hi]
    · simp [hi, hk]
theorem fv_putR {ad : Nat → Nat} {S : List (Nat × Nat)} {Rf : Nat → Nat → Option Nat} {M : Mem} {a ci N kf : Nat} {b : Nat} (hf : fref ci kf = true) : (List.range N).map (fv ad (S, updR Rf a kf (some b), M) a ci) = ((List.range N).map (fv ad (S, Rf, M) a ci)).set kf (.ref (ad b)) := by
  apply List.ext_getElem?
  intro i
  rw [List.getElem?_set]
  by_cases hi : i < N
  · by_cases hk : kf = i
    · subst hk
      simp [hi, fv, hf, updR_s, va_up, va_rf]
    · have : ¬ i = kf := fun q => hk q.symm
      simp [hi, fv, updR_s, va_up, hk, this]
  · by_cases hk : kf = i
    · subst hk
      simp [hi]
    · simp [hi, hk]
section HEAP
variable {X : MX} {pc : Nat} {lv : List (Option Value)} {st : List Value} {k n : Nat} {S : List (Nat × Nat)} {Rf : Nat → Nat → Option Nat} {M : Mem} {Q : Option Value → Hp → Prop}
theorem r_getI {a ci N kf idx : Nat} (hd : decode X.2.1 pc = .ok (.getfield idx, 3)) (hw : FW X.1.cls idx ci kf) (hs : S[a]? = some (ci, N)) (hk : kf < N) (hf : fref ci kf = false) (kk : WP X (pc + 3) lv (.int (M a kf) :: st) k n (S, Rf, M) Q) : WP X pc lv (.ref a :: st) k n (S, Rf, M) Q := by
  intro l p e s m args below meth c D cI cC A ad0 n0 ad H locs ls C G L
  obtain ⟨hx, hb, hr, hml, hown, hts, hlocks, hnm0, hNW, hK, hA⟩ := id C
  obtain ⟨g1, g2, g3, hP, hD, hS⟩ := id G
  obtain ⟨hc, hin, hty, hnm⟩ := cfs ci hw.2.1
  have he := wld_at (cI := cI) (cC := cC) (ad := ad) (h := (S, Rf, M)) (lt_of_get hs)
  rw [cel_o hs hw.2.1] at he
  have hv : ((List.range N).map (fv ad (S, Rf, M) a ci))[kf]? = some (.int (M a kf)) := by simp [hk, fv, hf]
  rcases hw.2.2 with hl | ⟨host, hl⟩
  · exact va_get hx hb hts hin hown hK hP a he hc kf hw.1 (hts _ hl) (fun _ q => q) hv hd (kk l p e s m args below meth c D cI cC A ad0 n0 ad H locs ls C G L)
  · exact va_getN hx hb hts hin hown hK hP a he hc kf hw.1 (va_Nw.use rfl (hNW.1 _ _ _ _ _ _ hl)) (fun _ q => q) hv hd (kk l p e s m args below meth c D cI cC A ad0 n0 ad H locs ls C G L)
theorem r_getR {a ci N kf idx b : Nat} (hd : decode X.2.1 pc = .ok (.getfield idx, 3)) (hw : FW X.1.cls idx ci kf) (hs : S[a]? = some (ci, N)) (hk : kf < N) (hf : fref ci kf = true) (hb0 : Rf a kf = some b) (kk : WP X (pc + 3) lv (.ref b :: st) k n (S, Rf, M) Q) : WP X pc lv (.ref a :: st) k n (S, Rf, M) Q := by
  intro l p e s m args below meth c D cI cC A ad0 n0 ad H locs ls C G L
  obtain ⟨hx, hb, hr, hml, hown, hts, hlocks, hnm0, hNW, hK, hA⟩ := id C
  obtain ⟨g1, g2, g3, hP, hD, hS⟩ := id G
  obtain ⟨hc, hin, hty, hnm⟩ := cfs ci hw.2.1
  have he := wld_at (cI := cI) (cC := cC) (ad := ad) (h := (S, Rf, M)) (lt_of_get hs)
  rw [cel_o hs hw.2.1] at he
  have hv : ((List.range N).map (fv ad (S, Rf, M) a ci))[kf]? = some (.ref (ad b)) := by simp [hk, fv, hf, hb0, va_rf]
  rcases hw.2.2 with hl | ⟨host, hl⟩
  · exact va_get hx hb hts hin hown hK hP a he hc kf hw.1 (hts _ hl) (fun _ q => q) hv hd (kk l p e s m args below meth c D cI cC A ad0 n0 ad H locs ls C G L)
  · exact va_getN hx hb hts hin hown hK hP a he hc kf hw.1 (va_Nw.use rfl (hNW.1 _ _ _ _ _ _ hl)) (fun _ q => q) hv hd (kk l p e s m args below meth c D cI cC A ad0 n0 ad H locs ls C G L)
theorem r_putI {a ci N kf idx : Nat} {x : Int32} (hd : decode X.2.1 pc = .ok (.putfield idx, 3)) (hw : FW X.1.cls idx ci kf) (hs : S[a]? = some (ci, N)) (hk : kf < N) (hf : fref ci kf = false) (hfin : ((clC ci).2.1 kf).2.2.2 = false ∨ (((clC ci).2.1 kf).2.2.2 = true ∧ X.1.name = "<init>" ∧ ((clC ci).2.1 kf).1 = X.1.cls ∧ Cond.fieldLink X.1.cls idx ((clC ci).2.1 kf).1 ((clC ci).2.1 kf).2.1 ((clC ci).2.1 kf).2.2.1 ∈ gG)) (hn : narrow (tyA ci kf) (.int x) = .int x) (hfit : fits (tyA ci kf) (.int x) = true) (kk : WP X (pc + 3) lv st k n (S, Rf, upd2 M a kf x) Q) : WP X pc lv (.int x :: .ref a :: st) k n (S, Rf, M) Q := by
  intro l p e s m args below meth c D cI cC A ad0 n0 ad H locs ls C G L
  obtain ⟨hx, hb, hr, hml, hown, hts, hlocks, hnm0, hNW, hK, hA⟩ := id C
  obtain ⟨g1, g2, g3, hP, hD, hS⟩ := id G
  obtain ⟨hc, hin, hty, hnm⟩ := cfs ci hw.2.1
  have he := wld_at (cI := cI) (cC := cC) (ad := ad) (h := (S, Rf, M)) (lt_of_get hs)
  rw [cel_o hs hw.2.1] at he
  have hset : (wld cI cC ad (S, Rf, M)).set a (ad a, .inr (ci, ((List.range N).map (fv ad (S, Rf, M) a ci)).set kf (.int x))) = wld cI cC ad (S, Rf, upd2 M a kf x) :=
    wld_set rfl (fun b hb => cel_ne rfl (upd2_n hb)) (by rw [cel_o (h := (S, Rf, upd2 M a kf x)) hs hw.2.1, fv_putI hf])
  have hlen : kf < ((List.range N).map (fv ad (S, Rf, M) a ci)).length := by simpa using hk
  have go : ∀ (H1 : Heap) (locs1 : List Loc), va_P D vwCl ((wld cI cC ad (S, Rf, M)).set a (ad a, .inr (ci, ((List.range N).map (fv ad (S, Rf, M) a ci)).set kf (.int x)))) H1 → va_D A ((wld cI cC ad (S, Rf, M)).set a (ad a, .inr (ci, ((List.range N).map (fv ad (S, Rf, M) a ci)).set kf (.int x)))) → va_S A s.heap H1 locs1 → W p l e (mxR X) s m args below meth c H1 locs1 k n (MQ below (Qw X D cI cC A ad0 n0 Q) args s X.2.2.2.2.2.1 X.2.2.2.2.2.2 A) (F0 m (pc + 3) ls (st.map (cv ad))) := by
    intro H1 locs1 hP1 hD1 hS1
    rw [hset] at hP1 hD1
    exact kk l p e s m args below meth c D cI cC A ad0 n0 ad H1 locs1 ls C ⟨g1, g2, g3, hP1, hD1, hS1⟩ L
  rcases hfin with hfin | ⟨hfin, h1, h2, h3⟩
  · rcases hw.2.2 with hl | ⟨host, hl⟩
    · exact va_put hx hb hts hin (tyA ci) hty hnm hown hK hP hD hS a he hc kf hw.1 (hts _ hl) (fun _ q => q) hfin (hty kf hw.1) hn hfit hlen hd go
    · exact va_putN hx hb hts hin (tyA ci) hty hnm hown hK hP hD hS a he hc kf hw.1 (va_Nw.use rfl (hNW.1 _ _ _ _ _ _ hl)) (fun _ q => q) hfin (hty kf hw.1) hn hfit hlen hd go
  · exact va_putF hx hb hts hin (tyA ci) hty hnm hown hK hP hD hS a he hc kf hw.1 (hts _ h3) (fun _ q => q) hfin (hnm0.trans h1) h2 (hty kf hw.1) hn hfit hlen hd go
theorem r_putR {a ci N kf idx b : Nat} (hd : decode X.2.1 pc = .ok (.putfield idx, 3)) (hw : FW X.1.cls idx ci kf) (hs : S[a]? = some (ci, N)) (hk : kf < N) (hf : fref ci kf = true) (hfin : ((clC ci).2.1 kf).2.2.2 = true ∧ X.1.name = "<init>" ∧ ((clC ci).2.1 kf).1 = X.1.cls) (hl : Cond.fieldLink X.1.cls idx ((clC ci).2.1 kf).1 ((clC ci).2.1 kf).2.1 ((clC ci).2.1 kf).2.2.1 ∈ gG) (hn : ∀ q, narrow (tyA ci kf) (.ref q) = .ref q) (hfit : ∀ q, fits (tyA ci kf) (.ref q) = true) (kk : WP X (pc + 3) lv st k n (S, updR Rf a kf (some b), M) Q) : WP X pc lv (.ref b :: .ref a :: st) k n (S, Rf, M) Q := by
  intro l p e s m args below meth c D cI cC A ad0 n0 ad H locs ls C G L
  obtain ⟨hx, hb, hr, hml, hown, hts, hlocks, hnm0, hNW, hK, hA⟩ := id C
  obtain ⟨g1, g2, g3, hP, hD, hS⟩ := id G
  obtain ⟨hc, hin, hty, hnm⟩ := cfs ci hw.2.1
  have he := wld_at (cI := cI) (cC := cC) (ad := ad) (h := (S, Rf, M)) (lt_of_get hs)
  rw [cel_o hs hw.2.1] at he
  have hset : (wld cI cC ad (S, Rf, M)).set a (ad a, .inr (ci, ((List.range N).map (fv ad (S, Rf, M) a ci)).set kf (.ref (ad b)))) = wld cI cC ad (S, updR Rf a kf (some b), M) :=
    wld_set rfl (fun b hb => cel_ne (updR_n hb) rfl) (by rw [cel_o (h := (S, updR Rf a kf (some b), M)) hs hw.2.1, fv_putR hf])
  have hlen : kf < ((List.range N).map (fv ad (S, Rf, M) a ci)).length := by simpa using hk
  exact va_putF (v := .ref (ad b)) hx hb hts hin (tyA ci) hty hnm hown hK hP hD hS a he hc kf hw.1 (hts _ hl) (fun _ q => q) hfin.1 (hnm0.trans hfin.2.1) hfin.2.2 (hty kf hw.1) (hn _) (hfit _) hlen hd (fun H1 locs1 hP1 hD1 hS1 => by
    rw [hset] at hP1 hD1
    exact kk l p e s m args below meth c D cI cC A ad0 n0 ad H1 locs1 ls C ⟨g1, g2, g3, hP1, hD1, hS1⟩ L)
theorem r_iaload {a N : Nat} {i : Int32} (hd : decode X.2.1 pc = .ok (.iaload, 1)) (hs : S[a]? = some (7, N)) (hin : vp_in i N) (kk : WP X (pc + 1) lv (.int (M a i.toNatClampNeg) :: st) k n (S, Rf, M) Q) : WP X pc lv (.int i :: .ref a :: st) k n (S, Rf, M) Q := by
  intro l p e s m args below meth c D cI cC A ad0 n0 ad H locs ls C G L
  obtain ⟨hx, hb, hr, hml, hown, hts, hlocks, hnm0, hNW, hK, hA⟩ := id C
  obtain ⟨g1, g2, g3, hP, hD, hS⟩ := id G
  have he := wld_at (cI := cI) (cC := cC) (ad := ad) (h := (S, Rf, M)) (lt_of_get hs)
  rw [cel_7 hs] at he
  exact va_iald hx hb hK hP a 0 he rfl hin hd (kk l p e s m args below meth c D cI cC A ad0 n0 ad H locs ls C G L)
theorem r_iastore {a N : Nat} {i x : Int32} (hd : decode X.2.1 pc = .ok (.iastore, 1)) (hs : S[a]? = some (7, N)) (hin : vp_in i N) (kk : WP X (pc + 1) lv st k n (S, Rf, upd2 M a i.toNatClampNeg x) Q) : WP X pc lv (.int x :: .int i :: .ref a :: st) k n (S, Rf, M) Q := by
  intro l p e s m args below meth c D cI cC A ad0 n0 ad H locs ls C G L
  obtain ⟨hx, hb, hr, hml, hown, hts, hlocks, hnm0, hNW, hK, hA⟩ := id C
  obtain ⟨g1, g2, g3, hP, hD, hS⟩ := id G
  have he := wld_at (cI := cI) (cC := cC) (ad := ad) (h := (S, Rf, M)) (lt_of_get hs)
  rw [cel_7 hs] at he
  have hset : (wld cI cC ad (S, Rf, M)).set a (ad a, .inl (cI, N, .inl (upd (M a) i.toNatClampNeg x))) = wld cI cC ad (S, Rf, upd2 M a i.toNatClampNeg x) :=
    wld_set rfl (fun b hb => cel_ne rfl (upd2_n hb)) (by rw [cel_7 (h := (S, Rf, upd2 M a i.toNatClampNeg x)) hs]; dsimp only; rw [upd2_s])
  exact va_iast hx hb hK hP hD hS a 0 he rfl hin hd (fun H1 locs1 hP1 hD1 hS1 => by
    rw [hset] at hP1 hD1
    exact kk l p e s m args below meth c D cI cC A ad0 n0 ad H1 locs1 ls C ⟨g1, g2, g3, hP1, hD1, hS1⟩ L)
theorem r_aaload {a N b : Nat} {i : Int32} (hd : decode X.2.1 pc = .ok (.aaload, 1)) (hs : S[a]? = some (8, N)) (hin : vp_in i N) (hb0 : Rf a i.toNatClampNeg = some b) (kk : WP X (pc + 1) lv (.ref b :: st) k n (S, Rf, M) Q) : WP X pc lv (.int i :: .ref a :: st) k n (S, Rf, M) Q := by
  intro l p e s m args below meth c D cI cC A ad0 n0 ad H locs ls C G L
  obtain ⟨hx, hb, hr, hml, hown, hts, hlocks, hnm0, hNW, hK, hA⟩ := id C
  obtain ⟨g1, g2, g3, hP, hD, hS⟩ := id G
  have he := wld_at (cI := cI) (cC := cC) (ad := ad) (h := (S, Rf, M)) (lt_of_get hs)
  rw [cel_8 hs] at he
  refine va_aldq hx hb hK hP a 1 he rfl hin hd ?_
  dsimp only
  rw [hb0]
  exact kk l p e s m args below meth c D cI cC A ad0 n0 ad H locs ls C G L
theorem r_alen {a ty N : Nat} (hd : decode X.2.1 pc = .ok (.arraylength, 1)) (hs : S[a]? = some (ty, N)) (ht : ty = 7 ∨ ty = 8) (kk : WP X (pc + 1) lv (.int (nI N) :: st) k n (S, Rf, M) Q) : WP X pc lv (.ref a :: st) k n (S, Rf, M) Q := by
  intro l p e s m args below meth c D cI cC A ad0 n0 ad H locs ls C G L
  obtain ⟨hx, hb, hr, hml, hown, hts, hlocks, hnm0, hNW, hK, hA⟩ := id C
  obtain ⟨g1, g2, g3, hP, hD, hS⟩ := id G
  have he := wld_at (cI := cI) (cC := cC) (ad := ad) (h := (S, Rf, M)) (lt_of_get hs)
  rcases ht with rfl | rfl
  · rw [cel_7 hs] at he
    exact va_alen hx hb hK hP a 0 he rfl rfl hd (kk l p e s m args below meth c D cI cC A ad0 n0 ad H locs ls C G L)
  · rw [cel_8 hs] at he
    exact va_alen hx hb hK hP a 1 he rfl rfl hd (kk l p e s m args below meth c D cI cC A ad0 n0 ad H locs ls C G L)
theorem r_ireturn {x : Int32} {h : Hp} (hd : decode X.2.1 pc = .ok (.ireturn, 1)) (hret : X.2.2.2.1 = some .int) (hk : k ≤ X.2.2.2.2.2.1) (hn : n ≤ X.2.2.2.2.2.2) (hq : Q (some (.int x)) h) : WP X pc lv [.int x] k n h Q := by
  intro l p e s m args below meth c D cI cC A ad0 n0 ad H locs ls C G L
  obtain ⟨hx, hb, hr, hml, hown, hts, hlocks, hnm0, hNW, hK, hA⟩ := id C
  obtain ⟨g1, g2, g3, hP, hD, hS⟩ := id G
  refine W.widen hk hn ?_
  exact W.iret (v := x) hx hb (hr.trans hret) (fun t ht hW => ⟨⟨some (.int x), h, ad, rfl, hq, g1, g2, g3, by rw [ht]; exact hP, hD⟩, hS.F ht⟩) hS.2.2 hd hlocks
theorem r_zreturn {x : Int32} {h : Hp} (hd : decode X.2.1 pc = .ok (.ireturn, 1)) (hret : X.2.2.2.1 = some .boolean) (hz : narrow .boolean (.int x) = .int x) (hk : k ≤ X.2.2.2.2.2.1) (hn : n ≤ X.2.2.2.2.2.2) (hq : Q (some (.int x)) h) : WP X pc lv [.int x] k n h Q := by
  intro l p e s m args below meth c D cI cC A ad0 n0 ad H locs ls C G L
  obtain ⟨hx, hb, hr, hml, hown, hts, hlocks, hnm0, hNW, hK, hA⟩ := id C
  obtain ⟨g1, g2, g3, hP, hD, hS⟩ := id G
  refine W.widen hk hn ?_
  exact W.zret (v := x) hx hb (hr.trans hret) hz (fun t ht hW => ⟨⟨some (.int x), h, ad, rfl, hq, g1, g2, g3, by rw [ht]; exact hP, hD⟩, hS.F ht⟩) hS.2.2 hd hlocks
theorem r_return {h : Hp} (hd : decode X.2.1 pc = .ok (.return_, 1)) (hret : X.2.2.2.1 = none) (hk : k ≤ X.2.2.2.2.2.1) (hn : n ≤ X.2.2.2.2.2.2) (hq : Q none h) : WP X pc lv [] k n h Q := by
  intro l p e s m args below meth c D cI cC A ad0 n0 ad H locs ls C G L
  obtain ⟨hx, hb, hr, hml, hown, hts, hlocks, hnm0, hNW, hK, hA⟩ := id C
  obtain ⟨g1, g2, g3, hP, hD, hS⟩ := id G
  refine W.widen hk hn ?_
  exact W.vret hx hb (hr.trans hret) (fun t ht hW => ⟨⟨none, h, ad, rfl, hq, g1, g2, g3, by rw [ht]; exact hP, hD⟩, hS.F ht⟩) hS.2.2 hd hlocks
theorem r_areturn {v : Value} {h : Hp} {rt : FieldType} (hd : decode X.2.1 pc = .ok (.areturn, 1)) (hret : X.2.2.2.1 = some rt) (hrt : (∃ n, rt = .object n) ∨ ∃ t, rt = .array t) (hv : v = .null ∨ ∃ a, v = .ref a) (hk : k ≤ X.2.2.2.2.2.1) (hn : n ≤ X.2.2.2.2.2.2) (hq : Q (some v) h) : WP X pc lv [v] k n h Q := by
  intro l p e s m args below meth c D cI cC A ad0 n0 ad H locs ls C G L
  obtain ⟨hx, hb, hr, hml, hown, hts, hlocks, hnm0, hNW, hK, hA⟩ := id C
  obtain ⟨g1, g2, g3, hP, hD, hS⟩ := id G
  refine W.widen hk hn ?_
  refine W.aret (v := cv ad v) hx hb (hr.trans hret) hrt ?_ (fun t ht hW => ⟨⟨some v, h, ad, rfl, hq, g1, g2, g3, by rw [ht]; exact hP, hD⟩, hS.F ht⟩) hS.2.2 hd hlocks
  rcases hv with rfl | ⟨a, rfl⟩
  · exact Or.inl rfl
  · exact Or.inr ⟨ad a, rfl⟩
end HEAP
end
section
theorem good_gG {ws : List Cond} (h : ∀ w ∈ ws, w ∈ gG) : GoodIn gG ws := fun w hw => ⟨h w hw, good_of_word (List.mem_filter.mp (h w hw)).2⟩
theorem gG_of {w : Cond} (h1 : w ∈ lw_tbl) (h2 : goodWord w = true) : w ∈ gG := List.mem_filter.mpr ⟨h1, h2⟩
theorem gG_all {ws : List Cond} (h : ws.all (fun w => decide (w ∈ lw_tbl) && goodWord w) = true) : ∀ w ∈ ws, w ∈ gG := by
  intro w hw
  have h1 := List.all_eq_true.mp h w hw
  rw [Bool.and_eq_true, decide_eq_true_eq] at h1
  exact gG_of h1.1 h1.2
def cOK (Y : MX) (na : Nat) : Prop := Cond.code Y.1 Y.2.1 Y.2.2.1 Y.2.2.2.1 ∈ gG ∧ Cond.initialized Y.1.cls ∈ gG ∧ (Y.1.cls ≠ "java/lang/invoke/MethodHandle" ∧ Y.1.cls ≠ "java/lang/invoke/VarHandle" ∧ (parseMethodDescriptor Y.1.desc).map (fun d => d.parameters.length) = some na)
def vOK (Y : MX) (na : Nat) : Prop := cOK Y na ∧ Cond.instanceMethod Y.1 ∈ gG ∧ Cond.selects Y.1.cls Y.1 Y.1 ∈ gG
theorem mxW_in {Y : MX} {na : Nat} (h : cOK Y na) : ∀ w ∈ mxW Y, w ∈ gG := fun w hw => (List.mem_cons.mp hw).elim (fun q => q ▸ h.1) id
/-- a reference that names a cell -/
def rok (N : Nat) : Value → Bool
  | .ref a => decide (a < N)
  | _ => true
theorem cv_rok {ad ad' : Nat → Nat} {N : Nat} (h : ∀ a, a < N → ad' a = ad a) {v : Value} (hv : rok N v = true) : cv ad' v = cv ad v := by
  cases v with
  | ref a => simp only [rok, decide_eq_true_eq] at hv; simp only [cv, h a hv]
  | _ => rfl
theorem map_rok {ad ad' : Nat → Nat} {N : Nat} (h : ∀ a, a < N → ad' a = ad a) {st : List Value} (hv : st.all (rok N) = true) : st.map (cv ad') = st.map (cv ad) := List.map_congr_left (fun v q => cv_rok h (List.all_eq_true.mp hv v q))
def rokl (N : Nat) : List (Option Value) → Bool
  | [] => true
  | none :: t => rokl N t
  | some v :: t => rok N v && rokl N t
theorem rokl_ok {N : Nat} : ∀ {lv : List (Option Value)}, rokl N lv = true → ∀ v, some v ∈ lv → rok N v = true
  | [], _, v, h => by cases h
  | none :: t, q, v, h => by
    rcases List.mem_cons.mp h with z | z
    · cases z
    · exact rokl_ok (lv := t) q v z
  | some w :: t, q, v, h => by
    simp only [rokl, Bool.and_eq_true] at q
    rcases List.mem_cons.mp h with z | z
    · cases z
      exact q.1
    · exact rokl_ok (lv := t) q.2 v z
section CALLS
variable {p : Program} {l : Launch} {e : Env} {R : Room} {s : State} {m : MethodId} {args : Array Value} {below : List Frame} {meth : Method} {c : Code} {H : Heap} {locs : List Loc} {cells slots : Nat} {Qf : State → Prop}
theorem call_go {pc : Nat} {ls : Array Slot} {rest st0 : List Value} {A0 : Nat → Prop} {H0 : Heap} {mc ms : Nat} {free : Addr → Prop} {Qa : State → Outcome → State → Prop} (hr : va_Run p l e R s m args below meth c H locs cells slots mc ms (F0 m pc ls st0) rest Qa free) (hS : va_S A0 H0 H locs) (hf : ∀ q, free q → A0 q) (hF : ∀ st o t, Qa st o t → va_F free st t)
    (kk : ∀ (v : Option Value) (st t : State) (H1 : Heap) (locs1 : List Loc), st.heap = H → t.heap = H1 → s.vm.Alike t.vm → Qa st (.returned v) t → va_S A0 H0 H1 locs1 → W p l e R s m args below meth c H1 locs1 (cells + mc) (slots + ms) Qf (F0 m (pc + 3) ls (v.toList ++ rest))) : W p l e R s m args below meth c H locs cells slots Qf (F0 m pc ls st0) := by
  intro T hT X
  obtain ⟨v, st₀, t, T', L, h0, X', hL, e1, e2, hq, st⟩ := hr T hT X
  obtain ⟨hz, hk⟩ := hF _ _ _ hq
  rw [h0] at hz hk
  obtain ⟨t2, a1, b1⟩ := kk v st₀ t T'.heap (locs ++ L) h0 e1.symm (by rw [← e2]; exact X'.warmed.alike) hq
    ⟨Nat.le_trans hS.1 (by rw [e1]; exact hz), fun q h1 h2 => by rw [e1, hk q (Nat.lt_of_lt_of_le h1 hS.1) (fun z => h2 (hf q z))]; exact hS.2.1 q h1 h2, fun q hq => by
      rcases List.mem_append.mp hq with h | h
      · exact hS.2.2 q h
      · exact hf _ (hL q h)⟩ T' rfl X'
  exact ⟨t2, st t2 a1, b1⟩
theorem con_blind {av : List Value} {D : va_G} {cI cC : ClassId} {ad : Nat → Nat} {h : Hp} {sz : Nat} : FrameBlind (va_Pc av (fun U => U.heap.size = sz ∧ va_P D vwCl (wld cI cC ad h) U.heap ∧ va_K D vwCl (tyz cI cC) U ∧ va_D (fun _ => True) (wld cI cC ad h) ∧ NW U)) := by
  intro a U g mk q
  obtain ⟨q0, q1, qP, qK, qD, qN⟩ := q
  exact ⟨q0, q1, qP, va_K.moved (u := U) (U := U.calling g mk a) (Vm.Alike.refl U.vm) qK, qD, NW.same (s := U) (U := U.calling g mk a) rfl qN⟩
end CALLS
section CALLR
variable {X Y : MX} {pc : Nat} {lv : List (Option Value)} {st : List Value} {k n : Nat} {S : List (Nat × Nat)} {Rf : Nat → Nat → Option Nat} {M : Mem} {Q Q1 : Option Value → Hp → Prop}
/-- the frames, the locals' words, the cells and the slots that a call takes -/
def cRoom (X Y : MX) (k n : Nat) (st : List Value) : Prop := ((mxR Y).frames + 1 ≤ (mxR X).frames ∧ 8 + (Y.2.2.1 + 11) + (mxR Y).locals ≤ (mxR X).locals) ∧ (k + Y.2.2.2.2.2.1 ≤ X.2.2.2.2.2.1 ∧ n + Y.2.2.2.2.2.2 ≤ X.2.2.2.2.2.2) ∧ (st.map fun v => v.category).sum ≤ 8
theorem r_after {avs : List Value} (hroom : cRoom X Y k n st) (hval : Y.2.2.2.2.2.1 = 0 ∨ (st.all (rok S.length) = true ∧ rokl S.length lv = true)) (kk : ∀ r h', Q1 r h' → WP X (pc + 3) lv (r.toList ++ st) (k + Y.2.2.2.2.2.1) (n + Y.2.2.2.2.2.2) h' Q)
    (l : Launch) (p : Program) (e : Env) (s : State) (m : MethodId) (args : Array Value) (below : List Frame) (meth : Method) (c : Code) (D : va_G) (cI cC : ClassId) (A : Nat → Prop) (ad0 : Nat → Nat) (n0 : Nat) (ad : Nat → Nat) (H : Heap) (locs : List Loc) (ls : Array Slot)
    (C : Cx X p s m args meth c D cI cC A) (G : Hx X s D cI cC A ad0 n0 ad (S, Rf, M) H locs) (L : lh ls X.2.2.1 ad lv) {st0 : List Value}
    (hr : va_Run p l e (mxR X) s m args below meth c H locs k n Y.2.2.2.2.2.1 Y.2.2.2.2.2.2 (F0 m pc ls st0) (st.map (cv ad)) (Qw Y D cI cC (va_A (wld cI cC ad (S, Rf, M)) H.size) ad S.length Q1 avs.toArray) (va_A (wld cI cC ad (S, Rf, M)) H.size)) :
    W p l e (mxR X) s m args below meth c H locs k n (MQ below (Qw X D cI cC A ad0 n0 Q) args s X.2.2.2.2.2.1 X.2.2.2.2.2.2 A) (F0 m pc ls st0) := by
  obtain ⟨hx, hb, hr0, hml, hown, hts, hlocks, hnm0, hNW, hK, hA⟩ := id C
  obtain ⟨g1, g2, g3, hP, hD, hS⟩ := id G
  have hfree : ∀ q, va_A (wld cI cC ad (S, Rf, M)) H.size q → A q := by
    intro q hq
    rcases hq with ⟨j, e', hj⟩ | hq
    · exact hD.2 j _ hj
    · exact hA q (Nat.le_trans hS.1 hq)
  refine call_go hr hS hfree (fun st' o t hq => hq.2) (fun v st' t H1 locs1 hst' ht hvm hq hS1 => ?_)
  obtain ⟨⟨r, h', ad1, ho, hQ1, a1, a2, a3, hP1, hD1⟩, hF⟩ := hq
  cases ho
  rw [ht] at hP1
  have hD2 : va_D A (wld cI cC ad1 h') := hD1.weaken (fun _ q _ z => hfree q.1 z)
  have hst : st.map (cv ad1) = st.map (cv ad) := by
    rcases hval with z | z
    · rw [a3 z]
    · exact map_rok a1 z.1
  have hL : lh ls X.2.2.1 ad1 lv := by
    rcases hval with z | z
    · rw [a3 z]; exact L
    · exact ⟨L.1, L.2.1, fun i v hv => by rw [cv_rok a1 (rokl_ok z.2 v (List.mem_of_getElem? hv))]; exact L.2.2 i v hv⟩
  have hG : Hx X s D cI cC A ad0 n0 ad1 h' H1 locs1 := by
    refine ⟨fun a ha => ?_, Nat.le_trans g2 a2, fun hz => ?_, hP1, hD2, hS1⟩
    · rw [a1 a (Nat.lt_of_lt_of_le ha g2)]
      exact g1 a ha
    · have hy : Y.2.2.2.2.2.1 = 0 := by have := hroom.2.1.1; omega
      rw [a3 hy]
      exact g3 hz
  have := kk r h' hQ1 l p e s m args below meth c D cI cC A ad0 n0 ad1 H1 locs1 ls C hG hL
  rw [List.map_append, hst] at this
  cases r with
  | none => exact this
  | some v => exact this
theorem pre_go {avs : List Value} {s : State} {D : va_G} {cI cC : ClassId} {A : Nat → Prop} {ad : Nat → Nat} {h : Hp} {H : Heap} (hK : va_K D vwCl (tyz cI cC) s) (hN : NW s) (hP : va_P D vwCl (wld cI cC ad h) H) (hD : va_D A (wld cI cC ad h)) : ∀ U : State, U.heap = H → s.WarmedH U.vm → (va_Pc (avs.map (cv ad)) (fun U => U.heap.size = H.size ∧ va_P D vwCl (wld cI cC ad h) U.heap ∧ va_K D vwCl (tyz cI cC) U ∧ va_D (fun _ => True) (wld cI cC ad h) ∧ NW U)) (avs.map (cv ad)).toArray U :=
  fun U hU hW => ⟨rfl, by rw [hU], by rw [hU]; exact hP, va_K.moved hW.alike hK, hD.weaken (fun _ _ _ _ => trivial), hN.warm hW⟩
theorem r_callV {a ci N na idx : Nat} {as : List Value} (hd : decode X.2.1 pc = .ok (.invokevirtual idx, 3)) (hl : Cond.methodLink X.1.cls idx Y.1 ∈ gG) (hw : vOK Y na) (hs : S[a]? = some (ci, N)) (hci : ci < 7 ∧ (clC ci).1 = Y.1.cls) (hna : as.length = na) (hroom : cRoom X Y k n st) (hval : Y.2.2.2.2.2.1 = 0 ∨ (st.all (rok S.length) = true ∧ rokl S.length lv = true)) (hc : Con Y (.ref a :: as) (S, Rf, M) Q1) (kk : ∀ r h', Q1 r h' → WP X (pc + 3) lv (r.toList ++ st) (k + Y.2.2.2.2.2.1) (n + Y.2.2.2.2.2.2) h' Q) : WP X pc lv (as.reverse ++ .ref a :: st) k n (S, Rf, M) Q := by
  intro l p e s m args below meth c D cI cC A ad0 n0 ad H locs ls C G L
  obtain ⟨hx, hb, hr0, hml, hown, hts, hlocks, hnm0, hNW, hK, hA⟩ := id C
  obtain ⟨g1, g2, g3, hP, hD, hS⟩ := id G
  have he := wld_at (cI := cI) (cC := cC) (ad := ad) (h := (S, Rf, M)) (lt_of_get hs)
  rw [cel_o hs hci.1] at he
  have hrecv := va_recv hK hP (cfs ci hci.1).1 he
  rw [hci.2] at hrecv
  have hcw := callB_of (R := mxR X) (rm := mxR Y) (mc := Y.2.2.2.2.2.1) (ms := Y.2.2.2.2.2.2) (ws := mxW Y) na hts (good_gG (mxW_in hw.1)) rfl rfl rfl (hts _ hw.1.2.1) (hts _ hl) hw.1.2.2 hroom.1
  refine r_after (avs := (.ref a :: as).map (cv ad)) hroom hval kk l p e s m args below meth c D cI cC A ad0 n0 ad H locs ls C G L ?_
  refine va_runV (As := as.map (cv ad)) (b := ad a) (C := Y.1.cls) ⟨hx, hb, hml, hown, hts⟩ (hc l D cI cC ad H.size) ⟨hcw, hts _ hw.2.1, hts _ hw.2.2⟩ ⟨con_blind, hrecv, pre_go (avs := .ref a :: as) hK hNW hP hD⟩ rfl (by simpa using hna) L.1 ?_ (lv_room ?_) hd hroom.2.1
  · show List.map (cv ad) _ = _
    rw [List.map_append, List.map_reverse]
    rfl
  · rw [List.map_map]
    have : ((fun v : Value => v.category) ∘ cv ad) = fun v => v.category := by funext v; exact cv_cat
    rw [this]
    exact hroom.2.2
theorem r_callS {na idx : Nat} {as : List Value} (hd : decode X.2.1 pc = .ok (.invokestatic idx, 3)) (hl : Cond.methodLink X.1.cls idx Y.1 ∈ gG) (hw : cOK Y na) (hst : Cond.static Y.1 ∈ gG) (hna : as.length = na) (hroom : cRoom X Y k n st) (hval : Y.2.2.2.2.2.1 = 0 ∨ (st.all (rok S.length) = true ∧ rokl S.length lv = true)) (hc : Con Y as (S, Rf, M) Q1) (kk : ∀ r h', Q1 r h' → WP X (pc + 3) lv (r.toList ++ st) (k + Y.2.2.2.2.2.1) (n + Y.2.2.2.2.2.2) h' Q) : WP X pc lv (as.reverse ++ st) k n (S, Rf, M) Q := by
  intro l p e s m args below meth c D cI cC A ad0 n0 ad H locs ls C G L
  obtain ⟨hx, hb, hr0, hml, hown, hts, hlocks, hnm0, hNW, hK, hA⟩ := id C
  obtain ⟨g1, g2, g3, hP, hD, hS⟩ := id G
  have hcw := callB_of (R := mxR X) (rm := mxR Y) (mc := Y.2.2.2.2.2.1) (ms := Y.2.2.2.2.2.2) (ws := mxW Y) na hts (good_gG (mxW_in hw)) rfl rfl rfl (hts _ hw.2.1) (hts _ hl) hw.2.2 hroom.1
  refine r_after (avs := as.map (cv ad)) hroom hval kk l p e s m args below meth c D cI cC A ad0 n0 ad H locs ls C G L ?_
  refine va_runS (As := as.map (cv ad)) ⟨hx, hb, hml, hown, hts⟩ (hc l D cI cC ad H.size) ⟨hcw, hts _ hst⟩ ⟨con_blind, pre_go (avs := as) hK hNW hP hD⟩ rfl (by simpa using hna) L.1 ?_ (lv_room ?_) hd hroom.2.1
  · show List.map (cv ad) _ = _
    rw [List.map_append, List.map_reverse]
  · rw [List.map_map]
    have : ((fun v : Value => v.category) ∘ cv ad) = fun v => v.category := by funext v; exact cv_cat
    rw [this]
    exact hroom.2.2
theorem r_callI {a na idx : Nat} {as : List Value} (hd : decode X.2.1 pc = .ok (.invokespecial idx, 3)) (hl : Cond.methodLink X.1.cls idx Y.1 ∈ gG ∨ ∃ host, Cond.methodLinkNest X.1.cls idx Y.1 host ∈ lw_tbl) (hw : cOK Y na) (hin : Cond.instanceMethod Y.1 ∈ gG) (hy : Y.1.name = "<init>" ∧ Y.2.2.2.1 = none) (hna : as.length = na) (hroom : cRoom X Y k n st) (hval : Y.2.2.2.2.2.1 = 0 ∨ (st.all (rok S.length) = true ∧ rokl S.length lv = true)) (hc : Con Y (.ref a :: as) (S, Rf, M) Q1) (kk : ∀ r h', Q1 r h' → WP X (pc + 3) lv (r.toList ++ st) (k + Y.2.2.2.2.2.1) (n + Y.2.2.2.2.2.2) h' Q) : WP X pc lv (as.reverse ++ .ref a :: st) k n (S, Rf, M) Q := by
  intro l p e s m args below meth c D cI cC A ad0 n0 ad H locs ls C G L
  obtain ⟨hx, hb, hr0, hml, hown, hts, hlocks, hnm0, hNW, hK, hA⟩ := id C
  obtain ⟨g1, g2, g3, hP, hD, hS⟩ := id G
  refine r_after (avs := (.ref a :: as).map (cv ad)) hroom hval kk l p e s m args below meth c D cI cC A ad0 n0 ad H locs ls C G L ?_
  have hstk : (F0 m pc ls ((as.reverse ++ .ref a :: st).map (cv ad))).stack = (as.map (cv ad)).reverse ++ .ref (ad a) :: st.map (cv ad) := by
    show List.map (cv ad) _ = _
    rw [List.map_append, List.map_reverse]
    rfl
  have hcat : ((st.map (cv ad)).map fun v => v.category).sum ≤ 8 := by
    rw [List.map_map]
    have : ((fun v : Value => v.category) ∘ cv ad) = fun v => v.category := by funext v; exact cv_cat
    rw [this]
    exact hroom.2.2
  rcases hl with hl | ⟨host, hl⟩
  · have hcw := callB_of (R := mxR X) (rm := mxR Y) (mc := Y.2.2.2.2.2.1) (ms := Y.2.2.2.2.2.2) (ws := mxW Y) na hts (good_gG (mxW_in hw)) rfl rfl rfl (hts _ hw.2.1) (hts _ hl) hw.2.2 hroom.1
    rw [hy.2] at hcw
    exact va_runI (As := as.map (cv ad)) (b := ad a) ⟨hx, hb, hml, hown, hts⟩ (hc l D cI cC ad H.size) ⟨hcw, hy.1, hts _ hin⟩ ⟨con_blind, pre_go (avs := .ref a :: as) hK hNW hP hD⟩ rfl (by simpa using hna) L.1 hstk (lv_room hcat) hd hroom.2.1
  · have hcw := va_cnB (R := mxR X) (rm := mxR Y) (mc := Y.2.2.2.2.2.1) (ms := Y.2.2.2.2.2.2) (ws := mxW Y) na hts (good_gG (mxW_in hw)) rfl rfl rfl (hNW.2.1 _ _ _ _ hl) (hts _ hw.2.1) hw.2.2 hroom.1
    rw [hy.2] at hcw
    exact va_runIN (As := as.map (cv ad)) (b := ad a) ⟨hx, hb, hml, hown, hts⟩ (hc l D cI cC ad H.size) ⟨hcw, hy.1, hts _ hin⟩ ⟨con_blind, pre_go (avs := .ref a :: as) hK hNW hP hD⟩ rfl (by simpa using hna) L.1 hstk (lv_room hcat) hd hroom.2.1
theorem r_objInit {a idx : Nat} {h : Hp} (hd : decode X.2.1 pc = .ok (.invokespecial idx, 3)) (hl : Cond.methodLink X.1.cls idx objectInit ∈ gG) (hi : Cond.instanceMethod objectInit ∈ gG) (hcd : Cond.code objectInit ⟨#[0xb1]⟩ 1 none ∈ gG) (hf : 1 ≤ (mxR X).frames) (hlo : (st.map fun v => v.category).sum + 12 ≤ (mxR X).locals) (kk : WP X (pc + 3) lv st k n h Q) : WP X pc lv (.ref a :: st) k n h Q := by
  intro l p e s m args below meth c D cI cC A ad0 n0 ad H locs ls C G L
  obtain ⟨hx, hb, hr0, hml, hown, hts, hlocks, hnm0, hNW, hK, hA⟩ := id C
  refine W.objInit hx hb hown (hts _ hl) (hts _ hi) (hts _ hcd) rfl (L.1.trans hml.symm) rfl hd hf ?_ (kk l p e s m args below meth c D cI cC A ad0 n0 ad H locs ls C G L)
  show 2 * 0 + ((st.map (cv ad)).map fun v => v.category).sum + 12 ≤ _
  rw [List.map_map]
  have : ((fun v : Value => v.category) ∘ cv ad) = fun v => v.category := by funext v; exact cv_cat
  rw [this]
  omega
end CALLR
theorem lv_args_1 {vs : List Value} (hc : ∀ v ∈ vs, v.category = 1) : ∀ (j i : Nat) (v : Value), vs[i]? = some v → (j + i, v) ∈ lv_args j vs := by
  induction vs with
  | nil => intro j i v h; simp at h
  | cons a t ih =>
    intro j i v h
    have ha : a.category = 1 := hc a List.mem_cons_self
    cases i with
    | zero =>
      simp at h
      subst h
      exact List.mem_cons_self
    | succ i =>
      simp at h
      refine List.mem_cons_of_mem _ ?_
      rw [if_neg (by omega)]
      have := ih (fun v q => hc v (List.mem_cons_of_mem _ q)) (j + 1) i v h
      rwa [show j + 1 + i = j + (i + 1) by omega] at this
theorem lg_sl_1 {vs : List Value} (hc : ∀ v ∈ vs, v.category = 1) : (lg_sl vs).length = vs.length := by
  induction vs with
  | nil => rfl
  | cons a t ih =>
    have ha : a.category = 1 := hc a List.mem_cons_self
    have := ih (fun v q => hc v (List.mem_cons_of_mem _ q))
    simp only [lg_sl] at this ⊢
    rw [List.flatMap_cons, if_neg (by omega), List.length_append, this]
    simp
    omega
/-- a contract out of a walk from the entry -/
theorem con_of {X : MX} {avs : List Value} {lv : List (Option Value)} {h : Hp} {Q : Option Value → Hp → Prop} (hp : plainName X.1.cls = true) (hc : okc (avs.map some) = true) (hlen : avs.length ≤ X.2.2.1) (hlv : lvle lv (avs.map some)) (hw : WP X 0 lv [] 0 0 h Q) : Con X avs h Q := by
  intro l D cI cC ad sz
  refine Met.ofW (cc := X.2.1) (maxL := X.2.2.1) (ret := X.2.2.2.1) hp rfl ?_
  intro p e s m args below meth c s₁ B hml hv
  obtain ⟨rfl, hsz, hP, hK, hD0, hN⟩ := hv
  subst hsz
  have hts := atoms_spec (ws := mxW X) B.pre
  have hcat : ∀ v ∈ avs.map (cv ad), v.category = 1 := by
    intro v hv
    obtain ⟨w, hw1, rfl⟩ := List.mem_map.mp hv
    rw [cv_cat]
    exact okc_ok hc w (List.mem_map.mpr ⟨w, hw1, rfl⟩)
  have hl := lv_entry (avs.map (cv ad)) (n := X.2.2.1) (by rw [lg_sl_1 hcat, List.length_map]; exact hlen)
  rw [lg_entry_eq]
  refine hw l p e s m _ below meth c D cI cC _ ad h.1.length ad s.heap [] _ ⟨B.exec, B.bytes, B.returns, hml, findClass_of_methodNamed B.named, fun w q => hts w (List.mem_cons_of_mem _ q), B.notSynchronized, (name_of_methodNamed B.named B.method).1, hN, hK, fun q z => Or.inr z⟩ ⟨fun _ _ => rfl, Nat.le_refl _, fun _ => rfl, hP, hD0.self, va_S.rf⟩ ⟨hl.1, hl.2.1, fun i v hv => ?_⟩
  have h1 := lvle_ok hlv i v hv
  rw [List.getElem?_map] at h1
  have h2 : (avs.map (cv ad))[i]? = some (cv ad v) := by
    rw [List.getElem?_map]
    cases hx : avs[i]? with
    | none => rw [hx] at h1; cases h1
    | some w => rw [hx] at h1; cases h1; rfl
  have h3 := lv_args_1 hcat 0 i _ h2
  rw [Nat.zero_add] at h3
  exact hl.2.2 _ h3
end
section
def shp : List (Nat × Nat) := [(5, 10), (1, 2), (7, 264), (7, 1024), (4, 13), (7, 16), (0, 2), (7, 16), (0, 2), (7, 16), (7, 180), (7, 30), (7, 30), (7, 16), (3, 4), (7, 32), (7, 6), (7, 6), (0, 2), (7, 16), (0, 2), (7, 16), (8, 8), (7, 4), (2, 8), (7, 4), (2, 8), (7, 4), (2, 8), (7, 4), (2, 8), (7, 4), (2, 8), (7, 4), (2, 8), (7, 4), (2, 8), (7, 4), (2, 8), (7, 4), (6, 35), (7, 252), (7, 1024), (7, 12), (7, 12), (7, 30), (7, 30), (7, 16), (7, 180), (7, 12), (7, 18), (7, 32), (7, 6), (7, 6), (7, 8), (7, 8), (7, 8), (7, 8), (7, 32), (7, 8), (7, 8), (7, 4)]
def rft : List (List (Option Nat)) := [[some 1, some 4, some 14, some 18, some 20, some 22, some 23], [some 2, some 3], [], [], [some 1, some 5, some 6, some 8, some 10, none, some 11, some 12, none, some 13], [], [some 7], [], [some 9], [], [], [], [], [], [some 15, some 16, some 17], [], [], [], [some 19], [], [some 21], [], [some 24, some 26, some 28, some 30, some 32, some 34, some 36, some 38], [], [none, some 25], [], [none, some 27], [], [none, some 29], [], [none, some 31], [], [none, some 33], [], [none, some 35], [], [none, some 37], [], [none, some 39], [], [some 41, some 42, some 43, none, some 44, none, some 45, some 46, none, none, none, some 47, none, some 48, none, some 49, some 50, some 51, none, some 52, some 53, some 54, some 55, some 56, some 57, some 58, some 59, some 60, none, none, none, none, some 61], [], [], [], [], [], [], [], [], [], [], [], [], [], [], [], [], [], [], [], [], []]
def rfs (a k : Nat) : Option Nat := (((rft[a]?).getD [])[k]?).getD none
def mX0_init : MX := (yX0_init, cX0_init, 1, none, (1, 20), (1, 16))
set_option maxRecDepth 100000 in
theorem ckX0_init : cOK mX0_init 0 := ⟨gG_of (by decide +kernel) rfl, gG_of (by decide +kernel) rfl, by decide +kernel⟩
set_option maxRecDepth 100000 in
theorem ikX0_init : Cond.instanceMethod mX0_init.1 ∈ gG := gG_of (by decide +kernel) rfl
def mX0_size : MX := (yX0_size, cX0_size, 1, some .int, (0, 0), (0, 0))
set_option maxRecDepth 100000 in
theorem ckX0_size : cOK mX0_size 0 := ⟨gG_of (by decide +kernel) rfl, gG_of (by decide +kernel) rfl, by decide +kernel⟩
set_option maxRecDepth 100000 in
theorem vkX0_size : vOK mX0_size 0 := ⟨ckX0_size, gG_of (by decide +kernel) rfl, gG_of (by decide +kernel) rfl⟩
def mX0_at : MX := (yX0_at, cX0_at, 2, some .int, (0, 0), (0, 0))
set_option maxRecDepth 100000 in
theorem ckX0_at : cOK mX0_at 1 := ⟨gG_of (by decide +kernel) rfl, gG_of (by decide +kernel) rfl, by decide +kernel⟩
set_option maxRecDepth 100000 in
theorem vkX0_at : vOK mX0_at 1 := ⟨ckX0_at, gG_of (by decide +kernel) rfl, gG_of (by decide +kernel) rfl⟩
def mX0_clear : MX := (yX0_clear, cX0_clear, 1, none, (0, 0), (0, 0))
set_option maxRecDepth 100000 in
theorem ckX0_clear : cOK mX0_clear 0 := ⟨gG_of (by decide +kernel) rfl, gG_of (by decide +kernel) rfl, by decide +kernel⟩
set_option maxRecDepth 100000 in
theorem vkX0_clear : vOK mX0_clear 0 := ⟨ckX0_clear, gG_of (by decide +kernel) rfl, gG_of (by decide +kernel) rfl⟩
def mX0_add : MX := (yX0_add, cX0_add, 2, none, (0, 0), (0, 0))
set_option maxRecDepth 100000 in
theorem ckX0_add : cOK mX0_add 1 := ⟨gG_of (by decide +kernel) rfl, gG_of (by decide +kernel) rfl, by decide +kernel⟩
set_option maxRecDepth 100000 in
theorem vkX0_add : vOK mX0_add 1 := ⟨ckX0_add, gG_of (by decide +kernel) rfl, gG_of (by decide +kernel) rfl⟩
def mX0_addNumber : MX := (yX0_addNumber, cX0_addNumber, 3, none, (1, 21), (0, 0))
set_option maxRecDepth 100000 in
theorem ckX0_addNumber : cOK mX0_addNumber 1 := ⟨gG_of (by decide +kernel) rfl, gG_of (by decide +kernel) rfl, by decide +kernel⟩
set_option maxRecDepth 100000 in
theorem vkX0_addNumber : vOK mX0_addNumber 1 := ⟨ckX0_addNumber, gG_of (by decide +kernel) rfl, gG_of (by decide +kernel) rfl⟩
def mX0_numberAt : MX := (yX0_numberAt, cX0_numberAt, 4, some .int, (0, 0), (0, 0))
set_option maxRecDepth 100000 in
theorem ckX0_numberAt : cOK mX0_numberAt 1 := ⟨gG_of (by decide +kernel) rfl, gG_of (by decide +kernel) rfl, by decide +kernel⟩
set_option maxRecDepth 100000 in
theorem vkX0_numberAt : vOK mX0_numberAt 1 := ⟨ckX0_numberAt, gG_of (by decide +kernel) rfl, gG_of (by decide +kernel) rfl⟩
def mX0_copy : MX := (yX0_copy, cX0_copy, 3, none, (1, 21), (0, 0))
set_option maxRecDepth 100000 in
theorem ckX0_copy : cOK mX0_copy 1 := ⟨gG_of (by decide +kernel) rfl, gG_of (by decide +kernel) rfl, by decide +kernel⟩
set_option maxRecDepth 100000 in
theorem vkX0_copy : vOK mX0_copy 1 := ⟨ckX0_copy, gG_of (by decide +kernel) rfl, gG_of (by decide +kernel) rfl⟩
def mX0_setOrder : MX := (yX0_setOrder, cX0_setOrder, 2, none, (1, 21), (0, 0))
set_option maxRecDepth 100000 in
theorem ckX0_setOrder : cOK mX0_setOrder 1 := ⟨gG_of (by decide +kernel) rfl, gG_of (by decide +kernel) rfl, by decide +kernel⟩
set_option maxRecDepth 100000 in
theorem vkX0_setOrder : vOK mX0_setOrder 1 := ⟨ckX0_setOrder, gG_of (by decide +kernel) rfl, gG_of (by decide +kernel) rfl⟩
def mX0_setNumber : MX := (yX0_setNumber, cX0_setNumber, 3, none, (2, 43), (0, 0))
set_option maxRecDepth 100000 in
theorem ckX0_setNumber : cOK mX0_setNumber 2 := ⟨gG_of (by decide +kernel) rfl, gG_of (by decide +kernel) rfl, by decide +kernel⟩
set_option maxRecDepth 100000 in
theorem vkX0_setNumber : vOK mX0_setNumber 2 := ⟨ckX0_setNumber, gG_of (by decide +kernel) rfl, gG_of (by decide +kernel) rfl⟩
def mX0_setAnswer : MX := (yX0_setAnswer, cX0_setAnswer, 3, none, (1, 21), (0, 0))
set_option maxRecDepth 100000 in
theorem ckX0_setAnswer : cOK mX0_setAnswer 2 := ⟨gG_of (by decide +kernel) rfl, gG_of (by decide +kernel) rfl, by decide +kernel⟩
set_option maxRecDepth 100000 in
theorem vkX0_setAnswer : vOK mX0_setAnswer 2 := ⟨ckX0_setAnswer, gG_of (by decide +kernel) rfl, gG_of (by decide +kernel) rfl⟩
def mX0_checksum : MX := (yX0_checksum, cX0_checksum, 6, some .int, (0, 0), (0, 0))
set_option maxRecDepth 100000 in
theorem ckX0_checksum : cOK mX0_checksum 1 := ⟨gG_of (by decide +kernel) rfl, gG_of (by decide +kernel) rfl, by decide +kernel⟩
set_option maxRecDepth 100000 in
theorem vkX0_checksum : vOK mX0_checksum 1 := ⟨ckX0_checksum, gG_of (by decide +kernel) rfl, gG_of (by decide +kernel) rfl⟩
def mX1_init : MX := (yX1_init, cX1_init, 5, none, (1, 20), (2, 1288))
set_option maxRecDepth 100000 in
theorem ckX1_init : cOK mX1_init 0 := ⟨gG_of (by decide +kernel) rfl, gG_of (by decide +kernel) rfl, by decide +kernel⟩
set_option maxRecDepth 100000 in
theorem ikX1_init : Cond.instanceMethod mX1_init.1 ∈ gG := gG_of (by decide +kernel) rfl
def mX1_wordOf : MX := (yX1_wordOf, cX1_wordOf, 4, some .int, (0, 0), (0, 0))
set_option maxRecDepth 100000 in
theorem ckX1_wordOf : cOK mX1_wordOf 2 := ⟨gG_of (by decide +kernel) rfl, gG_of (by decide +kernel) rfl, by decide +kernel⟩
set_option maxRecDepth 100000 in
theorem vkX1_wordOf : vOK mX1_wordOf 2 := ⟨ckX1_wordOf, gG_of (by decide +kernel) rfl, gG_of (by decide +kernel) rfl⟩
def mX1_valueOf : MX := (yX1_valueOf, cX1_valueOf, 5, some .int, (1, 20), (0, 0))
set_option maxRecDepth 100000 in
theorem ckX1_valueOf : cOK mX1_valueOf 2 := ⟨gG_of (by decide +kernel) rfl, gG_of (by decide +kernel) rfl, by decide +kernel⟩
set_option maxRecDepth 100000 in
theorem vkX1_valueOf : vOK mX1_valueOf 2 := ⟨ckX1_valueOf, gG_of (by decide +kernel) rfl, gG_of (by decide +kernel) rfl⟩
def mX2_init : MX := (yX2_init, cX2_init, 2, none, (1, 20), (1, 4))
set_option maxRecDepth 100000 in
theorem ckX2_init : cOK mX2_init 1 := ⟨gG_of (by decide +kernel) rfl, gG_of (by decide +kernel) rfl, by decide +kernel⟩
set_option maxRecDepth 100000 in
theorem ikX2_init : Cond.instanceMethod mX2_init.1 ∈ gG := gG_of (by decide +kernel) rfl
def mX2_begin : MX := (yX2_begin, cX2_begin, 5, none, (0, 0), (0, 0))
set_option maxRecDepth 100000 in
theorem ckX2_begin : cOK mX2_begin 4 := ⟨gG_of (by decide +kernel) rfl, gG_of (by decide +kernel) rfl, by decide +kernel⟩
set_option maxRecDepth 100000 in
theorem vkX2_begin : vOK mX2_begin 4 := ⟨ckX2_begin, gG_of (by decide +kernel) rfl, gG_of (by decide +kernel) rfl⟩
def mX2_end : MX := (yX2_end, cX2_end, 2, none, (0, 0), (0, 0))
set_option maxRecDepth 100000 in
theorem ckX2_end : cOK mX2_end 1 := ⟨gG_of (by decide +kernel) rfl, gG_of (by decide +kernel) rfl, by decide +kernel⟩
set_option maxRecDepth 100000 in
theorem vkX2_end : vOK mX2_end 1 := ⟨ckX2_end, gG_of (by decide +kernel) rfl, gG_of (by decide +kernel) rfl⟩
def mX2_lastSector : MX := (yX2_lastSector, cX2_lastSector, 1, some .int, (0, 0), (0, 0))
set_option maxRecDepth 100000 in
theorem ckX2_lastSector : cOK mX2_lastSector 0 := ⟨gG_of (by decide +kernel) rfl, gG_of (by decide +kernel) rfl, by decide +kernel⟩
set_option maxRecDepth 100000 in
theorem vkX2_lastSector : vOK mX2_lastSector 0 := ⟨ckX2_lastSector, gG_of (by decide +kernel) rfl, gG_of (by decide +kernel) rfl⟩
def mX2_numberAt : MX := (yX2_numberAt, cX2_numberAt, 2, some .int, (0, 0), (0, 0))
set_option maxRecDepth 100000 in
theorem ckX2_numberAt : cOK mX2_numberAt 1 := ⟨gG_of (by decide +kernel) rfl, gG_of (by decide +kernel) rfl, by decide +kernel⟩
set_option maxRecDepth 100000 in
theorem vkX2_numberAt : vOK mX2_numberAt 1 := ⟨ckX2_numberAt, gG_of (by decide +kernel) rfl, gG_of (by decide +kernel) rfl⟩
def mX2_setNumber : MX := (yX2_setNumber, cX2_setNumber, 3, none, (0, 0), (0, 0))
set_option maxRecDepth 100000 in
theorem ckX2_setNumber : cOK mX2_setNumber 2 := ⟨gG_of (by decide +kernel) rfl, gG_of (by decide +kernel) rfl, by decide +kernel⟩
set_option maxRecDepth 100000 in
theorem vkX2_setNumber : vOK mX2_setNumber 2 := ⟨ckX2_setNumber, gG_of (by decide +kernel) rfl, gG_of (by decide +kernel) rfl⟩
def mX2_setNumbers : MX := (yX2_setNumbers, cX2_setNumbers, 5, none, (1, 22), (0, 0))
set_option maxRecDepth 100000 in
theorem ckX2_setNumbers : cOK mX2_setNumbers 4 := ⟨gG_of (by decide +kernel) rfl, gG_of (by decide +kernel) rfl, by decide +kernel⟩
set_option maxRecDepth 100000 in
theorem vkX2_setNumbers : vOK mX2_setNumbers 4 := ⟨ckX2_setNumbers, gG_of (by decide +kernel) rfl, gG_of (by decide +kernel) rfl⟩
def mX2_copyNumbers : MX := (yX2_copyNumbers, cX2_copyNumbers, 3, none, (1, 21), (0, 0))
set_option maxRecDepth 100000 in
theorem ckX2_copyNumbers : cOK mX2_copyNumbers 1 := ⟨gG_of (by decide +kernel) rfl, gG_of (by decide +kernel) rfl, by decide +kernel⟩
set_option maxRecDepth 100000 in
theorem vkX2_copyNumbers : vOK mX2_copyNumbers 1 := ⟨ckX2_copyNumbers, gG_of (by decide +kernel) rfl, gG_of (by decide +kernel) rfl⟩
def mX3_init : MX := (yX3_init, cX3_init, 1, none, (1, 20), (3, 44))
set_option maxRecDepth 100000 in
theorem ckX3_init : cOK mX3_init 0 := ⟨gG_of (by decide +kernel) rfl, gG_of (by decide +kernel) rfl, by decide +kernel⟩
set_option maxRecDepth 100000 in
theorem ikX3_init : Cond.instanceMethod mX3_init.1 ∈ gG := gG_of (by decide +kernel) rfl
def mX3_numberOnDisk : MX := (yX3_numberOnDisk, cX3_numberOnDisk, 2, some .int, (0, 0), (0, 0))
set_option maxRecDepth 100000 in
theorem ckX3_numberOnDisk : cOK mX3_numberOnDisk 1 := ⟨gG_of (by decide +kernel) rfl, gG_of (by decide +kernel) rfl, by decide +kernel⟩
set_option maxRecDepth 100000 in
theorem vkX3_numberOnDisk : vOK mX3_numberOnDisk 1 := ⟨ckX3_numberOnDisk, gG_of (by decide +kernel) rfl, gG_of (by decide +kernel) rfl⟩
def mX3_numberAsRead : MX := (yX3_numberAsRead, cX3_numberAsRead, 3, some .int, (1, 22), (0, 0))
set_option maxRecDepth 100000 in
theorem ckX3_numberAsRead : cOK mX3_numberAsRead 1 := ⟨gG_of (by decide +kernel) rfl, gG_of (by decide +kernel) rfl, by decide +kernel⟩
set_option maxRecDepth 100000 in
theorem vkX3_numberAsRead : vOK mX3_numberAsRead 1 := ⟨ckX3_numberAsRead, gG_of (by decide +kernel) rfl, gG_of (by decide +kernel) rfl⟩
def mX3_sectorAtPlace : MX := (yX3_sectorAtPlace, cX3_sectorAtPlace, 2, some .int, (0, 0), (0, 0))
set_option maxRecDepth 100000 in
theorem ckX3_sectorAtPlace : cOK mX3_sectorAtPlace 1 := ⟨gG_of (by decide +kernel) rfl, gG_of (by decide +kernel) rfl, by decide +kernel⟩
set_option maxRecDepth 100000 in
theorem vkX3_sectorAtPlace : vOK mX3_sectorAtPlace 1 := ⟨ckX3_sectorAtPlace, gG_of (by decide +kernel) rfl, gG_of (by decide +kernel) rfl⟩
def mX3_putInCache : MX := (yX3_putInCache, cX3_putInCache, 4, none, (1, 22), (0, 0))
set_option maxRecDepth 100000 in
theorem ckX3_putInCache : cOK mX3_putInCache 2 := ⟨gG_of (by decide +kernel) rfl, gG_of (by decide +kernel) rfl, by decide +kernel⟩
set_option maxRecDepth 100000 in
theorem vkX3_putInCache : vOK mX3_putInCache 2 := ⟨ckX3_putInCache, gG_of (by decide +kernel) rfl, gG_of (by decide +kernel) rfl⟩
def mX3_putThrough : MX := (yX3_putThrough, cX3_putThrough, 4, none, (1, 22), (0, 0))
set_option maxRecDepth 100000 in
theorem ckX3_putThrough : cOK mX3_putThrough 2 := ⟨gG_of (by decide +kernel) rfl, gG_of (by decide +kernel) rfl, by decide +kernel⟩
set_option maxRecDepth 100000 in
theorem vkX3_putThrough : vOK mX3_putThrough 2 := ⟨ckX3_putThrough, gG_of (by decide +kernel) rfl, gG_of (by decide +kernel) rfl⟩
def mX3_layAll : MX := (yX3_layAll, cX3_layAll, 2, none, (1, 22), (0, 0))
set_option maxRecDepth 100000 in
theorem ckX3_layAll : cOK mX3_layAll 0 := ⟨gG_of (by decide +kernel) rfl, gG_of (by decide +kernel) rfl, by decide +kernel⟩
set_option maxRecDepth 100000 in
theorem vkX3_layAll : vOK mX3_layAll 0 := ⟨ckX3_layAll, gG_of (by decide +kernel) rfl, gG_of (by decide +kernel) rfl⟩
def mX3_dropCache : MX := (yX3_dropCache, cX3_dropCache, 2, some .int, (0, 0), (0, 0))
set_option maxRecDepth 100000 in
theorem ckX3_dropCache : cOK mX3_dropCache 0 := ⟨gG_of (by decide +kernel) rfl, gG_of (by decide +kernel) rfl, by decide +kernel⟩
set_option maxRecDepth 100000 in
theorem vkX3_dropCache : vOK mX3_dropCache 0 := ⟨ckX3_dropCache, gG_of (by decide +kernel) rfl, gG_of (by decide +kernel) rfl⟩
def mX3_placeInCache : MX := (yX3_placeInCache, cX3_placeInCache, 3, some .int, (0, 0), (0, 0))
set_option maxRecDepth 100000 in
theorem ckX3_placeInCache : cOK mX3_placeInCache 1 := ⟨gG_of (by decide +kernel) rfl, gG_of (by decide +kernel) rfl, by decide +kernel⟩
set_option maxRecDepth 100000 in
theorem vkX3_placeInCache : vOK mX3_placeInCache 1 := ⟨ckX3_placeInCache, gG_of (by decide +kernel) rfl, gG_of (by decide +kernel) rfl⟩
def mX3_removeFromCache : MX := (yX3_removeFromCache, cX3_removeFromCache, 3, none, (0, 0), (0, 0))
set_option maxRecDepth 100000 in
theorem ckX3_removeFromCache : cOK mX3_removeFromCache 1 := ⟨gG_of (by decide +kernel) rfl, gG_of (by decide +kernel) rfl, by decide +kernel⟩
set_option maxRecDepth 100000 in
theorem vkX3_removeFromCache : vOK mX3_removeFromCache 1 := ⟨ckX3_removeFromCache, gG_of (by decide +kernel) rfl, gG_of (by decide +kernel) rfl⟩
def mX3_putOnDisk : MX := (yX3_putOnDisk, cX3_putOnDisk, 3, none, (0, 0), (0, 0))
set_option maxRecDepth 100000 in
theorem ckX3_putOnDisk : cOK mX3_putOnDisk 2 := ⟨gG_of (by decide +kernel) rfl, gG_of (by decide +kernel) rfl, by decide +kernel⟩
set_option maxRecDepth 100000 in
theorem vkX3_putOnDisk : vOK mX3_putOnDisk 2 := ⟨ckX3_putOnDisk, gG_of (by decide +kernel) rfl, gG_of (by decide +kernel) rfl⟩
def mX4_init : MX := (yX4_init, cX4_init, 6, none, (2, 40), (9, 308))
set_option maxRecDepth 100000 in
theorem ckX4_init : cOK mX4_init 1 := ⟨gG_of (by decide +kernel) rfl, gG_of (by decide +kernel) rfl, by decide +kernel⟩
set_option maxRecDepth 100000 in
theorem ikX4_init : Cond.instanceMethod mX4_init.1 ∈ gG := gG_of (by decide +kernel) rfl
def mX4_bitAt : MX := (yX4_bitAt, cX4_bitAt, 2, some .int, (0, 0), (0, 0))
set_option maxRecDepth 100000 in
theorem ckX4_bitAt : cOK mX4_bitAt 1 := ⟨gG_of (by decide +kernel) rfl, gG_of (by decide +kernel) rfl, by decide +kernel⟩
set_option maxRecDepth 100000 in
theorem vkX4_bitAt : vOK mX4_bitAt 1 := ⟨ckX4_bitAt, gG_of (by decide +kernel) rfl, gG_of (by decide +kernel) rfl⟩
def mX4_findingFromEnd : MX := (yX4_findingFromEnd, cX4_findingFromEnd, 2, some .int, (1, 21), (0, 0))
set_option maxRecDepth 100000 in
theorem ckX4_findingFromEnd : cOK mX4_findingFromEnd 1 := ⟨gG_of (by decide +kernel) rfl, gG_of (by decide +kernel) rfl, by decide +kernel⟩
set_option maxRecDepth 100000 in
theorem vkX4_findingFromEnd : vOK mX4_findingFromEnd 1 := ⟨ckX4_findingFromEnd, gG_of (by decide +kernel) rfl, gG_of (by decide +kernel) rfl⟩
def mX4_addFault : MX := (yX4_addFault, cX4_addFault, 3, some .int, (0, 0), (0, 0))
set_option maxRecDepth 100000 in
theorem ckX4_addFault : cOK mX4_addFault 2 := ⟨gG_of (by decide +kernel) rfl, gG_of (by decide +kernel) rfl, by decide +kernel⟩
set_option maxRecDepth 100000 in
theorem vkX4_addFault : vOK mX4_addFault 2 := ⟨ckX4_addFault, gG_of (by decide +kernel) rfl, gG_of (by decide +kernel) rfl⟩
def mX4_dropFaults : MX := (yX4_dropFaults, cX4_dropFaults, 2, some .int, (0, 0), (0, 0))
set_option maxRecDepth 100000 in
theorem ckX4_dropFaults : cOK mX4_dropFaults 0 := ⟨gG_of (by decide +kernel) rfl, gG_of (by decide +kernel) rfl, by decide +kernel⟩
set_option maxRecDepth 100000 in
theorem vkX4_dropFaults : vOK mX4_dropFaults 0 := ⟨ckX4_dropFaults, gG_of (by decide +kernel) rfl, gG_of (by decide +kernel) rfl⟩
def mX4_deliver : MX := (yX4_deliver, cX4_deliver, 3, some .boolean, (4, 90), (0, 0))
set_option maxRecDepth 100000 in
theorem ckX4_deliver : cOK mX4_deliver 1 := ⟨gG_of (by decide +kernel) rfl, gG_of (by decide +kernel) rfl, by decide +kernel⟩
set_option maxRecDepth 100000 in
theorem vkX4_deliver : vOK mX4_deliver 1 := ⟨ckX4_deliver, gG_of (by decide +kernel) rfl, gG_of (by decide +kernel) rfl⟩
def mX4_sendOnce : MX := (yX4_sendOnce, cX4_sendOnce, 3, some .int, (3, 68), (0, 0))
set_option maxRecDepth 100000 in
theorem ckX4_sendOnce : cOK mX4_sendOnce 1 := ⟨gG_of (by decide +kernel) rfl, gG_of (by decide +kernel) rfl, by decide +kernel⟩
set_option maxRecDepth 100000 in
theorem vkX4_sendOnce : vOK mX4_sendOnce 1 := ⟨ckX4_sendOnce, gG_of (by decide +kernel) rfl, gG_of (by decide +kernel) rfl⟩
def mX4_placeOfFinding : MX := (yX4_placeOfFinding, cX4_placeOfFinding, 2, some .int, (0, 0), (0, 0))
set_option maxRecDepth 100000 in
theorem ckX4_placeOfFinding : cOK mX4_placeOfFinding 1 := ⟨gG_of (by decide +kernel) rfl, gG_of (by decide +kernel) rfl, by decide +kernel⟩
set_option maxRecDepth 100000 in
theorem vkX4_placeOfFinding : vOK mX4_placeOfFinding 1 := ⟨ckX4_placeOfFinding, gG_of (by decide +kernel) rfl, gG_of (by decide +kernel) rfl⟩
def mX4_layOnWire : MX := (yX4_layOnWire, cX4_layOnWire, 5, none, (1, 23), (0, 0))
set_option maxRecDepth 100000 in
theorem ckX4_layOnWire : cOK mX4_layOnWire 0 := ⟨gG_of (by decide +kernel) rfl, gG_of (by decide +kernel) rfl, by decide +kernel⟩
set_option maxRecDepth 100000 in
theorem vkX4_layOnWire : vOK mX4_layOnWire 0 := ⟨ckX4_layOnWire, gG_of (by decide +kernel) rfl, gG_of (by decide +kernel) rfl⟩
def mX4_scrambled : MX := (yX4_scrambled, cX4_scrambled, 3, some .int, (0, 0), (0, 0))
set_option maxRecDepth 100000 in
theorem ckX4_scrambled : cOK mX4_scrambled 2 := ⟨gG_of (by decide +kernel) rfl, gG_of (by decide +kernel) rfl, by decide +kernel⟩
set_option maxRecDepth 100000 in
theorem vkX4_scrambled : vOK mX4_scrambled 2 := ⟨ckX4_scrambled, gG_of (by decide +kernel) rfl, gG_of (by decide +kernel) rfl⟩
def mX4_putBits : MX := (yX4_putBits, cX4_putBits, 3, none, (0, 0), (0, 0))
set_option maxRecDepth 100000 in
theorem ckX4_putBits : cOK mX4_putBits 1 := ⟨gG_of (by decide +kernel) rfl, gG_of (by decide +kernel) rfl, by decide +kernel⟩
set_option maxRecDepth 100000 in
theorem vkX4_putBits : vOK mX4_putBits 1 := ⟨ckX4_putBits, gG_of (by decide +kernel) rfl, gG_of (by decide +kernel) rfl⟩
def mX4_turnFaultyBits : MX := (yX4_turnFaultyBits, cX4_turnFaultyBits, 3, none, (0, 0), (0, 0))
set_option maxRecDepth 100000 in
theorem ckX4_turnFaultyBits : cOK mX4_turnFaultyBits 0 := ⟨gG_of (by decide +kernel) rfl, gG_of (by decide +kernel) rfl, by decide +kernel⟩
set_option maxRecDepth 100000 in
theorem vkX4_turnFaultyBits : vOK mX4_turnFaultyBits 0 := ⟨ckX4_turnFaultyBits, gG_of (by decide +kernel) rfl, gG_of (by decide +kernel) rfl⟩
def mX4_wordAt : MX := (yX4_wordAt, cX4_wordAt, 5, some .int, (0, 0), (0, 0))
set_option maxRecDepth 100000 in
theorem ckX4_wordAt : cOK mX4_wordAt 1 := ⟨gG_of (by decide +kernel) rfl, gG_of (by decide +kernel) rfl, by decide +kernel⟩
set_option maxRecDepth 100000 in
theorem vkX4_wordAt : vOK mX4_wordAt 1 := ⟨ckX4_wordAt, gG_of (by decide +kernel) rfl, gG_of (by decide +kernel) rfl⟩
def mX4_receive : MX := (yX4_receive, cX4_receive, 5, some .int, (2, 44), (0, 0))
set_option maxRecDepth 100000 in
theorem ckX4_receive : cOK mX4_receive 0 := ⟨gG_of (by decide +kernel) rfl, gG_of (by decide +kernel) rfl, by decide +kernel⟩
set_option maxRecDepth 100000 in
theorem vkX4_receive : vOK mX4_receive 0 := ⟨ckX4_receive, gG_of (by decide +kernel) rfl, gG_of (by decide +kernel) rfl⟩
def mX4_isMisplaced : MX := (yX4_isMisplaced, cX4_isMisplaced, 4, some .boolean, (0, 0), (0, 0))
set_option maxRecDepth 100000 in
theorem ckX4_isMisplaced : cOK mX4_isMisplaced 3 := ⟨gG_of (by decide +kernel) rfl, gG_of (by decide +kernel) rfl, by decide +kernel⟩
set_option maxRecDepth 100000 in
theorem vkX4_isMisplaced : vOK mX4_isMisplaced 3 := ⟨ckX4_isMisplaced, gG_of (by decide +kernel) rfl, gG_of (by decide +kernel) rfl⟩
def mX5_init : MX := (yX5_init, cX5_init, 2, none, (3, 65), (39, 1803))
set_option maxRecDepth 100000 in
theorem ckX5_init : cOK mX5_init 0 := ⟨gG_of (by decide +kernel) rfl, gG_of (by decide +kernel) rfl, by decide +kernel⟩
set_option maxRecDepth 100000 in
theorem ikX5_init : Cond.instanceMethod mX5_init.1 ∈ gG := gG_of (by decide +kernel) rfl
def mX5_encode : MX := (yX5_encode, cX5_encode, 3, some .int, (1, 23), (0, 0))
set_option maxRecDepth 100000 in
theorem ckX5_encode : cOK mX5_encode 2 := ⟨gG_of (by decide +kernel) rfl, gG_of (by decide +kernel) rfl, by decide +kernel⟩
set_option maxRecDepth 100000 in
theorem vkX5_encode : vOK mX5_encode 2 := ⟨ckX5_encode, gG_of (by decide +kernel) rfl, gG_of (by decide +kernel) rfl⟩
def mX5_decode : MX := (yX5_decode, cX5_decode, 4, some .int, (2, 44), (0, 0))
set_option maxRecDepth 100000 in
theorem ckX5_decode : cOK mX5_decode 2 := ⟨gG_of (by decide +kernel) rfl, gG_of (by decide +kernel) rfl, by decide +kernel⟩
set_option maxRecDepth 100000 in
theorem vkX5_decode : vOK mX5_decode 2 := ⟨ckX5_decode, gG_of (by decide +kernel) rfl, gG_of (by decide +kernel) rfl⟩
def mX5_draft : MX := (yX5_draft, cX5_draft, 2, some .int, (1, 21), (0, 0))
set_option maxRecDepth 100000 in
theorem ckX5_draft : cOK mX5_draft 1 := ⟨gG_of (by decide +kernel) rfl, gG_of (by decide +kernel) rfl, by decide +kernel⟩
set_option maxRecDepth 100000 in
theorem vkX5_draft : vOK mX5_draft 1 := ⟨ckX5_draft, gG_of (by decide +kernel) rfl, gG_of (by decide +kernel) rfl⟩
def mX5_check : MX := (yX5_check, cX5_check, 1, some .int, (1, 25), (0, 0))
set_option maxRecDepth 100000 in
theorem ckX5_check : cOK mX5_check 0 := ⟨gG_of (by decide +kernel) rfl, gG_of (by decide +kernel) rfl, by decide +kernel⟩
set_option maxRecDepth 100000 in
theorem vkX5_check : vOK mX5_check 0 := ⟨ckX5_check, gG_of (by decide +kernel) rfl, gG_of (by decide +kernel) rfl⟩
def mX5_test : MX := (yX5_test, cX5_test, 2, some .int, (4, 90), (0, 0))
set_option maxRecDepth 100000 in
theorem ckX5_test : cOK mX5_test 0 := ⟨gG_of (by decide +kernel) rfl, gG_of (by decide +kernel) rfl, by decide +kernel⟩
set_option maxRecDepth 100000 in
theorem vkX5_test : vOK mX5_test 0 := ⟨ckX5_test, gG_of (by decide +kernel) rfl, gG_of (by decide +kernel) rfl⟩
def mX5_wire : MX := (yX5_wire, cX5_wire, 2, some .int, (1, 21), (0, 0))
set_option maxRecDepth 100000 in
theorem ckX5_wire : cOK mX5_wire 1 := ⟨gG_of (by decide +kernel) rfl, gG_of (by decide +kernel) rfl, by decide +kernel⟩
set_option maxRecDepth 100000 in
theorem vkX5_wire : vOK mX5_wire 1 := ⟨ckX5_wire, gG_of (by decide +kernel) rfl, gG_of (by decide +kernel) rfl⟩
def mX5_finding : MX := (yX5_finding, cX5_finding, 2, some .int, (2, 42), (0, 0))
set_option maxRecDepth 100000 in
theorem ckX5_finding : cOK mX5_finding 1 := ⟨gG_of (by decide +kernel) rfl, gG_of (by decide +kernel) rfl, by decide +kernel⟩
set_option maxRecDepth 100000 in
theorem vkX5_finding : vOK mX5_finding 1 := ⟨ckX5_finding, gG_of (by decide +kernel) rfl, gG_of (by decide +kernel) rfl⟩
def mX5_plan : MX := (yX5_plan, cX5_plan, 3, some .int, (1, 22), (0, 0))
set_option maxRecDepth 100000 in
theorem ckX5_plan : cOK mX5_plan 2 := ⟨gG_of (by decide +kernel) rfl, gG_of (by decide +kernel) rfl, by decide +kernel⟩
set_option maxRecDepth 100000 in
theorem vkX5_plan : vOK mX5_plan 2 := ⟨ckX5_plan, gG_of (by decide +kernel) rfl, gG_of (by decide +kernel) rfl⟩
def mX5_calm : MX := (yX5_calm, cX5_calm, 1, some .int, (1, 21), (0, 0))
set_option maxRecDepth 100000 in
theorem ckX5_calm : cOK mX5_calm 0 := ⟨gG_of (by decide +kernel) rfl, gG_of (by decide +kernel) rfl, by decide +kernel⟩
set_option maxRecDepth 100000 in
theorem vkX5_calm : vOK mX5_calm 0 := ⟨ckX5_calm, gG_of (by decide +kernel) rfl, gG_of (by decide +kernel) rfl⟩
def mX5_read : MX := (yX5_read, cX5_read, 4, some .int, (2, 49), (0, 0))
set_option maxRecDepth 100000 in
theorem ckX5_read : cOK mX5_read 3 := ⟨gG_of (by decide +kernel) rfl, gG_of (by decide +kernel) rfl, by decide +kernel⟩
set_option maxRecDepth 100000 in
theorem vkX5_read : vOK mX5_read 3 := ⟨ckX5_read, gG_of (by decide +kernel) rfl, gG_of (by decide +kernel) rfl⟩
def mX5_write : MX := (yX5_write, cX5_write, 11, some .int, (2, 49), (0, 0))
set_option maxRecDepth 100000 in
theorem ckX5_write : cOK mX5_write 8 := ⟨gG_of (by decide +kernel) rfl, gG_of (by decide +kernel) rfl, by decide +kernel⟩
set_option maxRecDepth 100000 in
theorem vkX5_write : vOK mX5_write 8 := ⟨ckX5_write, gG_of (by decide +kernel) rfl, gG_of (by decide +kernel) rfl⟩
def mX5_flush : MX := (yX5_flush, cX5_flush, 2, some .int, (2, 49), (0, 0))
set_option maxRecDepth 100000 in
theorem ckX5_flush : cOK mX5_flush 1 := ⟨gG_of (by decide +kernel) rfl, gG_of (by decide +kernel) rfl, by decide +kernel⟩
set_option maxRecDepth 100000 in
theorem vkX5_flush : vOK mX5_flush 1 := ⟨ckX5_flush, gG_of (by decide +kernel) rfl, gG_of (by decide +kernel) rfl⟩
def mX5_step : MX := (yX5_step, cX5_step, 2, some .int, (6, 137), (0, 0))
set_option maxRecDepth 100000 in
theorem ckX5_step : cOK mX5_step 0 := ⟨gG_of (by decide +kernel) rfl, gG_of (by decide +kernel) rfl, by decide +kernel⟩
set_option maxRecDepth 100000 in
theorem vkX5_step : vOK mX5_step 0 := ⟨ckX5_step, gG_of (by decide +kernel) rfl, gG_of (by decide +kernel) rfl⟩
def mX5_drain : MX := (yX5_drain, cX5_drain, 2, some .int, (7, 158), (0, 0))
set_option maxRecDepth 100000 in
theorem ckX5_drain : cOK mX5_drain 0 := ⟨gG_of (by decide +kernel) rfl, gG_of (by decide +kernel) rfl, by decide +kernel⟩
set_option maxRecDepth 100000 in
theorem vkX5_drain : vOK mX5_drain 0 := ⟨ckX5_drain, gG_of (by decide +kernel) rfl, gG_of (by decide +kernel) rfl⟩
def mX5_result : MX := (yX5_result, cX5_result, 3, some .int, (2, 43), (0, 0))
set_option maxRecDepth 100000 in
theorem ckX5_result : cOK mX5_result 1 := ⟨gG_of (by decide +kernel) rfl, gG_of (by decide +kernel) rfl, by decide +kernel⟩
set_option maxRecDepth 100000 in
theorem vkX5_result : vOK mX5_result 1 := ⟨ckX5_result, gG_of (by decide +kernel) rfl, gG_of (by decide +kernel) rfl⟩
def mX5_got : MX := (yX5_got, cX5_got, 2, some .int, (0, 0), (0, 0))
set_option maxRecDepth 100000 in
theorem ckX5_got : cOK mX5_got 1 := ⟨gG_of (by decide +kernel) rfl, gG_of (by decide +kernel) rfl, by decide +kernel⟩
set_option maxRecDepth 100000 in
theorem vkX5_got : vOK mX5_got 1 := ⟨ckX5_got, gG_of (by decide +kernel) rfl, gG_of (by decide +kernel) rfl⟩
def mX5_way : MX := (yX5_way, cX5_way, 3, some .int, (0, 0), (0, 0))
set_option maxRecDepth 100000 in
theorem ckX5_way : cOK mX5_way 1 := ⟨gG_of (by decide +kernel) rfl, gG_of (by decide +kernel) rfl, by decide +kernel⟩
set_option maxRecDepth 100000 in
theorem vkX5_way : vOK mX5_way 1 := ⟨ckX5_way, gG_of (by decide +kernel) rfl, gG_of (by decide +kernel) rfl⟩
def mX5_cut : MX := (yX5_cut, cX5_cut, 5, some .int, (1, 21), (0, 0))
set_option maxRecDepth 100000 in
theorem ckX5_cut : cOK mX5_cut 0 := ⟨gG_of (by decide +kernel) rfl, gG_of (by decide +kernel) rfl, by decide +kernel⟩
set_option maxRecDepth 100000 in
theorem vkX5_cut : vOK mX5_cut 0 := ⟨ckX5_cut, gG_of (by decide +kernel) rfl, gG_of (by decide +kernel) rfl⟩
def mX5_sector : MX := (yX5_sector, cX5_sector, 3, some .int, (2, 44), (0, 0))
set_option maxRecDepth 100000 in
theorem ckX5_sector : cOK mX5_sector 2 := ⟨gG_of (by decide +kernel) rfl, gG_of (by decide +kernel) rfl, by decide +kernel⟩
set_option maxRecDepth 100000 in
theorem vkX5_sector : vOK mX5_sector 2 := ⟨ckX5_sector, gG_of (by decide +kernel) rfl, gG_of (by decide +kernel) rfl⟩
def mX5_cached : MX := (yX5_cached, cX5_cached, 2, some .int, (1, 21), (0, 0))
set_option maxRecDepth 100000 in
theorem ckX5_cached : cOK mX5_cached 1 := ⟨gG_of (by decide +kernel) rfl, gG_of (by decide +kernel) rfl, by decide +kernel⟩
set_option maxRecDepth 100000 in
theorem vkX5_cached : vOK mX5_cached 1 := ⟨ckX5_cached, gG_of (by decide +kernel) rfl, gG_of (by decide +kernel) rfl⟩
def mX5_state : MX := (yX5_state, cX5_state, 3, some .int, (1, 21), (0, 0))
set_option maxRecDepth 100000 in
theorem ckX5_state : cOK mX5_state 1 := ⟨gG_of (by decide +kernel) rfl, gG_of (by decide +kernel) rfl, by decide +kernel⟩
set_option maxRecDepth 100000 in
theorem vkX5_state : vOK mX5_state 1 := ⟨ckX5_state, gG_of (by decide +kernel) rfl, gG_of (by decide +kernel) rfl⟩
def mX5_count : MX := (yX5_count, cX5_count, 2, some .int, (1, 26), (0, 0))
set_option maxRecDepth 100000 in
theorem ckX5_count : cOK mX5_count 1 := ⟨gG_of (by decide +kernel) rfl, gG_of (by decide +kernel) rfl, by decide +kernel⟩
set_option maxRecDepth 100000 in
theorem vkX5_count : vOK mX5_count 1 := ⟨ckX5_count, gG_of (by decide +kernel) rfl, gG_of (by decide +kernel) rfl⟩
def mX5_commandOf : MX := (yX5_commandOf, cX5_commandOf, 2, some (.object "StoragePath$Command"), (0, 0), (0, 0))
set_option maxRecDepth 100000 in
theorem ckX5_commandOf : cOK mX5_commandOf 1 := ⟨gG_of (by decide +kernel) rfl, gG_of (by decide +kernel) rfl, by decide +kernel⟩
set_option maxRecDepth 100000 in
theorem vkX5_commandOf : vOK mX5_commandOf 1 := ⟨ckX5_commandOf, gG_of (by decide +kernel) rfl, gG_of (by decide +kernel) rfl⟩
def mX5_commandsAt : MX := (yX5_commandsAt, cX5_commandsAt, 7, some .int, (0, 0), (0, 0))
set_option maxRecDepth 100000 in
theorem ckX5_commandsAt : cOK mX5_commandsAt 1 := ⟨gG_of (by decide +kernel) rfl, gG_of (by decide +kernel) rfl, by decide +kernel⟩
set_option maxRecDepth 100000 in
theorem vkX5_commandsAt : vOK mX5_commandsAt 1 := ⟨ckX5_commandsAt, gG_of (by decide +kernel) rfl, gG_of (by decide +kernel) rfl⟩
def mX5_issue : MX := (yX5_issue, cX5_issue, 6, some .int, (1, 24), (0, 0))
set_option maxRecDepth 100000 in
theorem ckX5_issue : cOK mX5_issue 4 := ⟨gG_of (by decide +kernel) rfl, gG_of (by decide +kernel) rfl, by decide +kernel⟩
set_option maxRecDepth 100000 in
theorem vkX5_issue : vOK mX5_issue 4 := ⟨ckX5_issue, gG_of (by decide +kernel) rfl, gG_of (by decide +kernel) rfl⟩
def mX5_nextCommand : MX := (yX5_nextCommand, cX5_nextCommand, 6, some (.object "StoragePath$Command"), (2, 43), (0, 0))
set_option maxRecDepth 100000 in
theorem ckX5_nextCommand : cOK mX5_nextCommand 0 := ⟨gG_of (by decide +kernel) rfl, gG_of (by decide +kernel) rfl, by decide +kernel⟩
set_option maxRecDepth 100000 in
theorem vkX5_nextCommand : vOK mX5_nextCommand 0 := ⟨ckX5_nextCommand, gG_of (by decide +kernel) rfl, gG_of (by decide +kernel) rfl⟩
def mX5_goesAhead : MX := (yX5_goesAhead, cX5_goesAhead, 3, some .boolean, (1, 21), (0, 0))
set_option maxRecDepth 100000 in
theorem ckX5_goesAhead : cOK mX5_goesAhead 2 := ⟨gG_of (by decide +kernel) rfl, gG_of (by decide +kernel) rfl, by decide +kernel⟩
set_option maxRecDepth 100000 in
theorem vkX5_goesAhead : vOK mX5_goesAhead 2 := ⟨ckX5_goesAhead, gG_of (by decide +kernel) rfl, gG_of (by decide +kernel) rfl⟩
def mX5_distance : MX := (yX5_distance, cX5_distance, 2, some .int, (0, 0), (0, 0))
set_option maxRecDepth 100000 in
theorem ckX5_distance : cOK mX5_distance 1 := ⟨gG_of (by decide +kernel) rfl, gG_of (by decide +kernel) rfl, by decide +kernel⟩
set_option maxRecDepth 100000 in
theorem vkX5_distance : vOK mX5_distance 1 := ⟨ckX5_distance, gG_of (by decide +kernel) rfl, gG_of (by decide +kernel) rfl⟩
def mX5_carryOut : MX := (yX5_carryOut, cX5_carryOut, 6, some .int, (5, 112), (0, 0))
set_option maxRecDepth 100000 in
theorem ckX5_carryOut : cOK mX5_carryOut 1 := ⟨gG_of (by decide +kernel) rfl, gG_of (by decide +kernel) rfl, by decide +kernel⟩
set_option maxRecDepth 100000 in
theorem vkX5_carryOut : vOK mX5_carryOut 1 := ⟨ckX5_carryOut, gG_of (by decide +kernel) rfl, gG_of (by decide +kernel) rfl⟩
def mX5_keepNumber : MX := (yX5_keepNumber, cX5_keepNumber, 4, none, (2, 45), (0, 0))
set_option maxRecDepth 100000 in
theorem ckX5_keepNumber : cOK mX5_keepNumber 3 := ⟨gG_of (by decide +kernel) rfl, gG_of (by decide +kernel) rfl, by decide +kernel⟩
set_option maxRecDepth 100000 in
theorem vkX5_keepNumber : vOK mX5_keepNumber 3 := ⟨ckX5_keepNumber, gG_of (by decide +kernel) rfl, gG_of (by decide +kernel) rfl⟩
def mX6_init : MX := (yX6_init, cX6_init, 5, none, (1, 22), (21, 1714))
set_option maxRecDepth 100000 in
theorem ckX6_init : cOK mX6_init 0 := ⟨gG_of (by decide +kernel) rfl, gG_of (by decide +kernel) rfl, by decide +kernel⟩
set_option maxRecDepth 100000 in
theorem ikX6_init : Cond.instanceMethod mX6_init.1 ∈ gG := gG_of (by decide +kernel) rfl
def mX6_ones : MX := (yX6_ones, cX6_ones, 3, some .int, (0, 0), (0, 0))
set_option maxRecDepth 100000 in
theorem ckX6_ones : cOK mX6_ones 1 := ⟨gG_of (by decide +kernel) rfl, gG_of (by decide +kernel) rfl, by decide +kernel⟩
set_option maxRecDepth 100000 in
theorem skX6_ones : Cond.static mX6_ones.1 ∈ gG := gG_of (by decide +kernel) rfl
def mX6_in : MX := (yX6_in, cX6_in, 3, some .boolean, (0, 0), (0, 0))
set_option maxRecDepth 100000 in
theorem ckX6_in : cOK mX6_in 3 := ⟨gG_of (by decide +kernel) rfl, gG_of (by decide +kernel) rfl, by decide +kernel⟩
set_option maxRecDepth 100000 in
theorem skX6_in : Cond.static mX6_in.1 ∈ gG := gG_of (by decide +kernel) rfl
def mX6_isEven : MX := (yX6_isEven, cX6_isEven, 1, some .boolean, (0, 0), (0, 0))
set_option maxRecDepth 100000 in
theorem ckX6_isEven : cOK mX6_isEven 1 := ⟨gG_of (by decide +kernel) rfl, gG_of (by decide +kernel) rfl, by decide +kernel⟩
set_option maxRecDepth 100000 in
theorem skX6_isEven : Cond.static mX6_isEven.1 ∈ gG := gG_of (by decide +kernel) rfl
def mX6_wordOf : MX := (yX6_wordOf, cX6_wordOf, 4, some .int, (1, 20), (0, 0))
set_option maxRecDepth 100000 in
theorem ckX6_wordOf : cOK mX6_wordOf 2 := ⟨gG_of (by decide +kernel) rfl, gG_of (by decide +kernel) rfl, by decide +kernel⟩
set_option maxRecDepth 100000 in
theorem vkX6_wordOf : vOK mX6_wordOf 2 := ⟨ckX6_wordOf, gG_of (by decide +kernel) rfl, gG_of (by decide +kernel) rfl⟩
def mX6_unevenOf : MX := (yX6_unevenOf, cX6_unevenOf, 5, some .int, (0, 0), (0, 0))
set_option maxRecDepth 100000 in
theorem ckX6_unevenOf : cOK mX6_unevenOf 2 := ⟨gG_of (by decide +kernel) rfl, gG_of (by decide +kernel) rfl, by decide +kernel⟩
set_option maxRecDepth 100000 in
theorem vkX6_unevenOf : vOK mX6_unevenOf 2 := ⟨ckX6_unevenOf, gG_of (by decide +kernel) rfl, gG_of (by decide +kernel) rfl⟩
def mX6_encode : MX := (yX6_encode, cX6_encode, 3, some .int, (2, 43), (0, 0))
set_option maxRecDepth 100000 in
theorem ckX6_encode : cOK mX6_encode 2 := ⟨gG_of (by decide +kernel) rfl, gG_of (by decide +kernel) rfl, by decide +kernel⟩
set_option maxRecDepth 100000 in
theorem vkX6_encode : vOK mX6_encode 2 := ⟨ckX6_encode, gG_of (by decide +kernel) rfl, gG_of (by decide +kernel) rfl⟩
def mX6_valueOf : MX := (yX6_valueOf, cX6_valueOf, 4, some .int, (1, 24), (0, 0))
set_option maxRecDepth 100000 in
theorem ckX6_valueOf : cOK mX6_valueOf 2 := ⟨gG_of (by decide +kernel) rfl, gG_of (by decide +kernel) rfl, by decide +kernel⟩
set_option maxRecDepth 100000 in
theorem vkX6_valueOf : vOK mX6_valueOf 2 := ⟨ckX6_valueOf, gG_of (by decide +kernel) rfl, gG_of (by decide +kernel) rfl⟩
def mX6_decode : MX := (yX6_decode, cX6_decode, 3, some .int, (2, 47), (0, 0))
set_option maxRecDepth 100000 in
theorem ckX6_decode : cOK mX6_decode 2 := ⟨gG_of (by decide +kernel) rfl, gG_of (by decide +kernel) rfl, by decide +kernel⟩
set_option maxRecDepth 100000 in
theorem vkX6_decode : vOK mX6_decode 2 := ⟨ckX6_decode, gG_of (by decide +kernel) rfl, gG_of (by decide +kernel) rfl⟩
def mX6_draft : MX := (yX6_draft, cX6_draft, 2, some .int, (1, 22), (0, 0))
set_option maxRecDepth 100000 in
theorem ckX6_draft : cOK mX6_draft 1 := ⟨gG_of (by decide +kernel) rfl, gG_of (by decide +kernel) rfl, by decide +kernel⟩
set_option maxRecDepth 100000 in
theorem vkX6_draft : vOK mX6_draft 1 := ⟨ckX6_draft, gG_of (by decide +kernel) rfl, gG_of (by decide +kernel) rfl⟩
def mX6_checkByte : MX := (yX6_checkByte, cX6_checkByte, 5, some .int, (0, 0), (0, 0))
set_option maxRecDepth 100000 in
theorem ckX6_checkByte : cOK mX6_checkByte 2 := ⟨gG_of (by decide +kernel) rfl, gG_of (by decide +kernel) rfl, by decide +kernel⟩
set_option maxRecDepth 100000 in
theorem skX6_checkByte : Cond.static mX6_checkByte.1 ∈ gG := gG_of (by decide +kernel) rfl
def mX6_checkOf : MX := (yX6_checkOf, cX6_checkOf, 5, some .int, (1, 24), (0, 0))
set_option maxRecDepth 100000 in
theorem ckX6_checkOf : cOK mX6_checkOf 3 := ⟨gG_of (by decide +kernel) rfl, gG_of (by decide +kernel) rfl, by decide +kernel⟩
set_option maxRecDepth 100000 in
theorem skX6_checkOf : Cond.static mX6_checkOf.1 ∈ gG := gG_of (by decide +kernel) rfl
def mX6_check : MX := (yX6_check, cX6_check, 1, some .int, (2, 48), (0, 0))
set_option maxRecDepth 100000 in
theorem ckX6_check : cOK mX6_check 0 := ⟨gG_of (by decide +kernel) rfl, gG_of (by decide +kernel) rfl, by decide +kernel⟩
set_option maxRecDepth 100000 in
theorem vkX6_check : vOK mX6_check 0 := ⟨ckX6_check, gG_of (by decide +kernel) rfl, gG_of (by decide +kernel) rfl⟩
def mX6_nextScramble : MX := (yX6_nextScramble, cX6_nextScramble, 4, some .int, (0, 0), (0, 0))
set_option maxRecDepth 100000 in
theorem ckX6_nextScramble : cOK mX6_nextScramble 0 := ⟨gG_of (by decide +kernel) rfl, gG_of (by decide +kernel) rfl, by decide +kernel⟩
set_option maxRecDepth 100000 in
theorem vkX6_nextScramble : vOK mX6_nextScramble 0 := ⟨ckX6_nextScramble, gG_of (by decide +kernel) rfl, gG_of (by decide +kernel) rfl⟩
def mX6_wireWord : MX := (yX6_wireWord, cX6_wireWord, 4, none, (2, 43), (0, 0))
set_option maxRecDepth 100000 in
theorem ckX6_wireWord : cOK mX6_wireWord 1 := ⟨gG_of (by decide +kernel) rfl, gG_of (by decide +kernel) rfl, by decide +kernel⟩
set_option maxRecDepth 100000 in
theorem vkX6_wireWord : vOK mX6_wireWord 1 := ⟨ckX6_wireWord, gG_of (by decide +kernel) rfl, gG_of (by decide +kernel) rfl⟩
def mX6_layWire : MX := (yX6_layWire, cX6_layWire, 4, none, (3, 66), (0, 0))
set_option maxRecDepth 100000 in
theorem ckX6_layWire : cOK mX6_layWire 0 := ⟨gG_of (by decide +kernel) rfl, gG_of (by decide +kernel) rfl, by decide +kernel⟩
set_option maxRecDepth 100000 in
theorem vkX6_layWire : vOK mX6_layWire 0 := ⟨ckX6_layWire, gG_of (by decide +kernel) rfl, gG_of (by decide +kernel) rfl⟩
def mX6_findWord : MX := (yX6_findWord, cX6_findWord, 6, some .int, (2, 47), (0, 0))
set_option maxRecDepth 100000 in
theorem ckX6_findWord : cOK mX6_findWord 2 := ⟨gG_of (by decide +kernel) rfl, gG_of (by decide +kernel) rfl, by decide +kernel⟩
set_option maxRecDepth 100000 in
theorem vkX6_findWord : vOK mX6_findWord 2 := ⟨ckX6_findWord, gG_of (by decide +kernel) rfl, gG_of (by decide +kernel) rfl⟩
def mX6_receive : MX := (yX6_receive, cX6_receive, 4, some .int, (3, 72), (0, 0))
set_option maxRecDepth 100000 in
theorem ckX6_receive : cOK mX6_receive 0 := ⟨gG_of (by decide +kernel) rfl, gG_of (by decide +kernel) rfl, by decide +kernel⟩
set_option maxRecDepth 100000 in
theorem vkX6_receive : vOK mX6_receive 0 := ⟨ckX6_receive, gG_of (by decide +kernel) rfl, gG_of (by decide +kernel) rfl⟩
def mX6_sendOnce : MX := (yX6_sendOnce, cX6_sendOnce, 2, some .int, (4, 95), (0, 0))
set_option maxRecDepth 100000 in
theorem ckX6_sendOnce : cOK mX6_sendOnce 0 := ⟨gG_of (by decide +kernel) rfl, gG_of (by decide +kernel) rfl, by decide +kernel⟩
set_option maxRecDepth 100000 in
theorem vkX6_sendOnce : vOK mX6_sendOnce 0 := ⟨ckX6_sendOnce, gG_of (by decide +kernel) rfl, gG_of (by decide +kernel) rfl⟩
def mX6_send : MX := (yX6_send, cX6_send, 2, some .boolean, (5, 116), (0, 0))
set_option maxRecDepth 100000 in
theorem ckX6_send : cOK mX6_send 0 := ⟨gG_of (by decide +kernel) rfl, gG_of (by decide +kernel) rfl, by decide +kernel⟩
set_option maxRecDepth 100000 in
theorem vkX6_send : vOK mX6_send 0 := ⟨ckX6_send, gG_of (by decide +kernel) rfl, gG_of (by decide +kernel) rfl⟩
def mX6_test : MX := (yX6_test, cX6_test, 2, some .int, (5, 116), (0, 0))
set_option maxRecDepth 100000 in
theorem ckX6_test : cOK mX6_test 0 := ⟨gG_of (by decide +kernel) rfl, gG_of (by decide +kernel) rfl, by decide +kernel⟩
set_option maxRecDepth 100000 in
theorem vkX6_test : vOK mX6_test 0 := ⟨ckX6_test, gG_of (by decide +kernel) rfl, gG_of (by decide +kernel) rfl⟩
def mX6_wire : MX := (yX6_wire, cX6_wire, 2, some .int, (1, 22), (0, 0))
set_option maxRecDepth 100000 in
theorem ckX6_wire : cOK mX6_wire 1 := ⟨gG_of (by decide +kernel) rfl, gG_of (by decide +kernel) rfl, by decide +kernel⟩
set_option maxRecDepth 100000 in
theorem vkX6_wire : vOK mX6_wire 1 := ⟨ckX6_wire, gG_of (by decide +kernel) rfl, gG_of (by decide +kernel) rfl⟩
def mX6_finding : MX := (yX6_finding, cX6_finding, 2, some .int, (1, 22), (0, 0))
set_option maxRecDepth 100000 in
theorem ckX6_finding : cOK mX6_finding 1 := ⟨gG_of (by decide +kernel) rfl, gG_of (by decide +kernel) rfl, by decide +kernel⟩
set_option maxRecDepth 100000 in
theorem vkX6_finding : vOK mX6_finding 1 := ⟨ckX6_finding, gG_of (by decide +kernel) rfl, gG_of (by decide +kernel) rfl⟩
def mX6_plan : MX := (yX6_plan, cX6_plan, 3, some .int, (1, 22), (0, 0))
set_option maxRecDepth 100000 in
theorem ckX6_plan : cOK mX6_plan 2 := ⟨gG_of (by decide +kernel) rfl, gG_of (by decide +kernel) rfl, by decide +kernel⟩
set_option maxRecDepth 100000 in
theorem vkX6_plan : vOK mX6_plan 2 := ⟨ckX6_plan, gG_of (by decide +kernel) rfl, gG_of (by decide +kernel) rfl⟩
def mX6_calm : MX := (yX6_calm, cX6_calm, 2, some .int, (0, 0), (0, 0))
set_option maxRecDepth 100000 in
theorem ckX6_calm : cOK mX6_calm 0 := ⟨gG_of (by decide +kernel) rfl, gG_of (by decide +kernel) rfl, by decide +kernel⟩
set_option maxRecDepth 100000 in
theorem vkX6_calm : vOK mX6_calm 0 := ⟨ckX6_calm, gG_of (by decide +kernel) rfl, gG_of (by decide +kernel) rfl⟩
def mX6_isTag : MX := (yX6_isTag, cX6_isTag, 1, some .boolean, (1, 22), (0, 0))
set_option maxRecDepth 100000 in
theorem ckX6_isTag : cOK mX6_isTag 1 := ⟨gG_of (by decide +kernel) rfl, gG_of (by decide +kernel) rfl, by decide +kernel⟩
set_option maxRecDepth 100000 in
theorem skX6_isTag : Cond.static mX6_isTag.1 ∈ gG := gG_of (by decide +kernel) rfl
def mX6_issue : MX := (yX6_issue, cX6_issue, 5, some .int, (0, 0), (0, 0))
set_option maxRecDepth 100000 in
theorem ckX6_issue : cOK mX6_issue 4 := ⟨gG_of (by decide +kernel) rfl, gG_of (by decide +kernel) rfl, by decide +kernel⟩
set_option maxRecDepth 100000 in
theorem vkX6_issue : vOK mX6_issue 4 := ⟨ckX6_issue, gG_of (by decide +kernel) rfl, gG_of (by decide +kernel) rfl⟩
def mX6_against : MX := (yX6_against, cX6_against, 4, some .int, (2, 42), (0, 0))
set_option maxRecDepth 100000 in
theorem ckX6_against : cOK mX6_against 3 := ⟨gG_of (by decide +kernel) rfl, gG_of (by decide +kernel) rfl, by decide +kernel⟩
set_option maxRecDepth 100000 in
theorem vkX6_against : vOK mX6_against 3 := ⟨ckX6_against, gG_of (by decide +kernel) rfl, gG_of (by decide +kernel) rfl⟩
def mX6_read : MX := (yX6_read, cX6_read, 5, some .int, (3, 65), (0, 0))
set_option maxRecDepth 100000 in
theorem ckX6_read : cOK mX6_read 3 := ⟨gG_of (by decide +kernel) rfl, gG_of (by decide +kernel) rfl, by decide +kernel⟩
set_option maxRecDepth 100000 in
theorem vkX6_read : vOK mX6_read 3 := ⟨ckX6_read, gG_of (by decide +kernel) rfl, gG_of (by decide +kernel) rfl⟩
def mX6_write : MX := (yX6_write, cX6_write, 10, some .int, (3, 65), (0, 0))
set_option maxRecDepth 100000 in
theorem ckX6_write : cOK mX6_write 8 := ⟨gG_of (by decide +kernel) rfl, gG_of (by decide +kernel) rfl, by decide +kernel⟩
set_option maxRecDepth 100000 in
theorem vkX6_write : vOK mX6_write 8 := ⟨ckX6_write, gG_of (by decide +kernel) rfl, gG_of (by decide +kernel) rfl⟩
def mX6_flush : MX := (yX6_flush, cX6_flush, 3, some .int, (3, 65), (0, 0))
set_option maxRecDepth 100000 in
theorem ckX6_flush : cOK mX6_flush 1 := ⟨gG_of (by decide +kernel) rfl, gG_of (by decide +kernel) rfl, by decide +kernel⟩
set_option maxRecDepth 100000 in
theorem vkX6_flush : vOK mX6_flush 1 := ⟨ckX6_flush, gG_of (by decide +kernel) rfl, gG_of (by decide +kernel) rfl⟩
def mX6_placeOf : MX := (yX6_placeOf, cX6_placeOf, 3, some .int, (0, 0), (0, 0))
set_option maxRecDepth 100000 in
theorem ckX6_placeOf : cOK mX6_placeOf 1 := ⟨gG_of (by decide +kernel) rfl, gG_of (by decide +kernel) rfl, by decide +kernel⟩
set_option maxRecDepth 100000 in
theorem vkX6_placeOf : vOK mX6_placeOf 1 := ⟨ckX6_placeOf, gG_of (by decide +kernel) rfl, gG_of (by decide +kernel) rfl⟩
def mX6_leave : MX := (yX6_leave, cX6_leave, 3, none, (0, 0), (0, 0))
set_option maxRecDepth 100000 in
theorem ckX6_leave : cOK mX6_leave 1 := ⟨gG_of (by decide +kernel) rfl, gG_of (by decide +kernel) rfl, by decide +kernel⟩
set_option maxRecDepth 100000 in
theorem vkX6_leave : vOK mX6_leave 1 := ⟨ckX6_leave, gG_of (by decide +kernel) rfl, gG_of (by decide +kernel) rfl⟩
def mX6_lay : MX := (yX6_lay, cX6_lay, 2, none, (1, 22), (0, 0))
set_option maxRecDepth 100000 in
theorem ckX6_lay : cOK mX6_lay 1 := ⟨gG_of (by decide +kernel) rfl, gG_of (by decide +kernel) rfl, by decide +kernel⟩
set_option maxRecDepth 100000 in
theorem vkX6_lay : vOK mX6_lay 1 := ⟨ckX6_lay, gG_of (by decide +kernel) rfl, gG_of (by decide +kernel) rfl⟩
def mX6_reads : MX := (yX6_reads, cX6_reads, 3, some .int, (1, 22), (0, 0))
set_option maxRecDepth 100000 in
theorem ckX6_reads : cOK mX6_reads 1 := ⟨gG_of (by decide +kernel) rfl, gG_of (by decide +kernel) rfl, by decide +kernel⟩
set_option maxRecDepth 100000 in
theorem vkX6_reads : vOK mX6_reads 1 := ⟨ckX6_reads, gG_of (by decide +kernel) rfl, gG_of (by decide +kernel) rfl⟩
def mX6_written : MX := (yX6_written, cX6_written, 4, none, (2, 43), (0, 0))
set_option maxRecDepth 100000 in
theorem ckX6_written : cOK mX6_written 2 := ⟨gG_of (by decide +kernel) rfl, gG_of (by decide +kernel) rfl, by decide +kernel⟩
set_option maxRecDepth 100000 in
theorem vkX6_written : vOK mX6_written 2 := ⟨ckX6_written, gG_of (by decide +kernel) rfl, gG_of (by decide +kernel) rfl⟩
def mX6_through : MX := (yX6_through, cX6_through, 4, none, (1, 22), (0, 0))
set_option maxRecDepth 100000 in
theorem ckX6_through : cOK mX6_through 2 := ⟨gG_of (by decide +kernel) rfl, gG_of (by decide +kernel) rfl, by decide +kernel⟩
set_option maxRecDepth 100000 in
theorem vkX6_through : vOK mX6_through 2 := ⟨ckX6_through, gG_of (by decide +kernel) rfl, gG_of (by decide +kernel) rfl⟩
def mX6_three : MX := (yX6_three, cX6_three, 4, none, (0, 0), (0, 0))
set_option maxRecDepth 100000 in
theorem ckX6_three : cOK mX6_three 3 := ⟨gG_of (by decide +kernel) rfl, gG_of (by decide +kernel) rfl, by decide +kernel⟩
set_option maxRecDepth 100000 in
theorem vkX6_three : vOK mX6_three 3 := ⟨ckX6_three, gG_of (by decide +kernel) rfl, gG_of (by decide +kernel) rfl⟩
def mX6_number : MX := (yX6_number, cX6_number, 4, none, (0, 0), (0, 0))
set_option maxRecDepth 100000 in
theorem ckX6_number : cOK mX6_number 2 := ⟨gG_of (by decide +kernel) rfl, gG_of (by decide +kernel) rfl, by decide +kernel⟩
set_option maxRecDepth 100000 in
theorem vkX6_number : vOK mX6_number 2 := ⟨ckX6_number, gG_of (by decide +kernel) rfl, gG_of (by decide +kernel) rfl⟩
def mX6_lastOf : MX := (yX6_lastOf, cX6_lastOf, 3, some .int, (0, 0), (0, 0))
set_option maxRecDepth 100000 in
theorem ckX6_lastOf : cOK mX6_lastOf 3 := ⟨gG_of (by decide +kernel) rfl, gG_of (by decide +kernel) rfl, by decide +kernel⟩
set_option maxRecDepth 100000 in
theorem skX6_lastOf : Cond.static mX6_lastOf.1 ∈ gG := gG_of (by decide +kernel) rfl
def mX6_done : MX := (yX6_done, cX6_done, 4, some .int, (6, 137), (0, 0))
set_option maxRecDepth 100000 in
theorem ckX6_done : cOK mX6_done 1 := ⟨gG_of (by decide +kernel) rfl, gG_of (by decide +kernel) rfl, by decide +kernel⟩
set_option maxRecDepth 100000 in
theorem vkX6_done : vOK mX6_done 1 := ⟨ckX6_done, gG_of (by decide +kernel) rfl, gG_of (by decide +kernel) rfl⟩
def mX6_isAhead : MX := (yX6_isAhead, cX6_isAhead, 5, some .boolean, (0, 0), (0, 0))
set_option maxRecDepth 100000 in
theorem ckX6_isAhead : cOK mX6_isAhead 2 := ⟨gG_of (by decide +kernel) rfl, gG_of (by decide +kernel) rfl, by decide +kernel⟩
set_option maxRecDepth 100000 in
theorem vkX6_isAhead : vOK mX6_isAhead 2 := ⟨ckX6_isAhead, gG_of (by decide +kernel) rfl, gG_of (by decide +kernel) rfl⟩
def mX6_next : MX := (yX6_next, cX6_next, 3, some .int, (1, 24), (0, 0))
set_option maxRecDepth 100000 in
theorem ckX6_next : cOK mX6_next 0 := ⟨gG_of (by decide +kernel) rfl, gG_of (by decide +kernel) rfl, by decide +kernel⟩
set_option maxRecDepth 100000 in
theorem vkX6_next : vOK mX6_next 0 := ⟨ckX6_next, gG_of (by decide +kernel) rfl, gG_of (by decide +kernel) rfl⟩
def mX6_step : MX := (yX6_step, cX6_step, 2, some .int, (7, 160), (0, 0))
set_option maxRecDepth 100000 in
theorem ckX6_step : cOK mX6_step 0 := ⟨gG_of (by decide +kernel) rfl, gG_of (by decide +kernel) rfl, by decide +kernel⟩
set_option maxRecDepth 100000 in
theorem vkX6_step : vOK mX6_step 0 := ⟨ckX6_step, gG_of (by decide +kernel) rfl, gG_of (by decide +kernel) rfl⟩
def mX6_drain : MX := (yX6_drain, cX6_drain, 3, some .int, (8, 181), (0, 0))
set_option maxRecDepth 100000 in
theorem ckX6_drain : cOK mX6_drain 0 := ⟨gG_of (by decide +kernel) rfl, gG_of (by decide +kernel) rfl, by decide +kernel⟩
set_option maxRecDepth 100000 in
theorem vkX6_drain : vOK mX6_drain 0 := ⟨ckX6_drain, gG_of (by decide +kernel) rfl, gG_of (by decide +kernel) rfl⟩
def mX6_result : MX := (yX6_result, cX6_result, 3, some .int, (2, 42), (0, 0))
set_option maxRecDepth 100000 in
theorem ckX6_result : cOK mX6_result 1 := ⟨gG_of (by decide +kernel) rfl, gG_of (by decide +kernel) rfl, by decide +kernel⟩
set_option maxRecDepth 100000 in
theorem vkX6_result : vOK mX6_result 1 := ⟨ckX6_result, gG_of (by decide +kernel) rfl, gG_of (by decide +kernel) rfl⟩
def mX6_got : MX := (yX6_got, cX6_got, 2, some .int, (1, 22), (0, 0))
set_option maxRecDepth 100000 in
theorem ckX6_got : cOK mX6_got 1 := ⟨gG_of (by decide +kernel) rfl, gG_of (by decide +kernel) rfl, by decide +kernel⟩
set_option maxRecDepth 100000 in
theorem vkX6_got : vOK mX6_got 1 := ⟨ckX6_got, gG_of (by decide +kernel) rfl, gG_of (by decide +kernel) rfl⟩
def mX6_way : MX := (yX6_way, cX6_way, 3, some .int, (1, 22), (0, 0))
set_option maxRecDepth 100000 in
theorem ckX6_way : cOK mX6_way 1 := ⟨gG_of (by decide +kernel) rfl, gG_of (by decide +kernel) rfl, by decide +kernel⟩
set_option maxRecDepth 100000 in
theorem vkX6_way : vOK mX6_way 1 := ⟨ckX6_way, gG_of (by decide +kernel) rfl, gG_of (by decide +kernel) rfl⟩
def mX6_cut : MX := (yX6_cut, cX6_cut, 3, some .int, (0, 0), (0, 0))
set_option maxRecDepth 100000 in
theorem ckX6_cut : cOK mX6_cut 0 := ⟨gG_of (by decide +kernel) rfl, gG_of (by decide +kernel) rfl, by decide +kernel⟩
set_option maxRecDepth 100000 in
theorem vkX6_cut : vOK mX6_cut 0 := ⟨ckX6_cut, gG_of (by decide +kernel) rfl, gG_of (by decide +kernel) rfl⟩
def mX6_sector : MX := (yX6_sector, cX6_sector, 3, some .int, (2, 44), (0, 0))
set_option maxRecDepth 100000 in
theorem ckX6_sector : cOK mX6_sector 2 := ⟨gG_of (by decide +kernel) rfl, gG_of (by decide +kernel) rfl, by decide +kernel⟩
set_option maxRecDepth 100000 in
theorem vkX6_sector : vOK mX6_sector 2 := ⟨ckX6_sector, gG_of (by decide +kernel) rfl, gG_of (by decide +kernel) rfl⟩
def mX6_cached : MX := (yX6_cached, cX6_cached, 2, some .int, (1, 22), (0, 0))
set_option maxRecDepth 100000 in
theorem ckX6_cached : cOK mX6_cached 1 := ⟨gG_of (by decide +kernel) rfl, gG_of (by decide +kernel) rfl, by decide +kernel⟩
set_option maxRecDepth 100000 in
theorem vkX6_cached : vOK mX6_cached 1 := ⟨ckX6_cached, gG_of (by decide +kernel) rfl, gG_of (by decide +kernel) rfl⟩
def mX6_state : MX := (yX6_state, cX6_state, 2, some .int, (2, 42), (0, 0))
set_option maxRecDepth 100000 in
theorem ckX6_state : cOK mX6_state 1 := ⟨gG_of (by decide +kernel) rfl, gG_of (by decide +kernel) rfl, by decide +kernel⟩
set_option maxRecDepth 100000 in
theorem vkX6_state : vOK mX6_state 1 := ⟨ckX6_state, gG_of (by decide +kernel) rfl, gG_of (by decide +kernel) rfl⟩
def mX6_tags : MX := (yX6_tags, cX6_tags, 4, some .int, (0, 0), (0, 0))
set_option maxRecDepth 100000 in
theorem ckX6_tags : cOK mX6_tags 1 := ⟨gG_of (by decide +kernel) rfl, gG_of (by decide +kernel) rfl, by decide +kernel⟩
set_option maxRecDepth 100000 in
theorem vkX6_tags : vOK mX6_tags 1 := ⟨ckX6_tags, gG_of (by decide +kernel) rfl, gG_of (by decide +kernel) rfl⟩
def mX6_count : MX := (yX6_count, cX6_count, 2, some .int, (1, 23), (0, 0))
set_option maxRecDepth 100000 in
theorem ckX6_count : cOK mX6_count 1 := ⟨gG_of (by decide +kernel) rfl, gG_of (by decide +kernel) rfl, by decide +kernel⟩
set_option maxRecDepth 100000 in
theorem vkX6_count : vOK mX6_count 1 := ⟨ckX6_count, gG_of (by decide +kernel) rfl, gG_of (by decide +kernel) rfl⟩
def mJ6_bitCount_0f7a4 : MX := (yJ6_bitCount_0f7a4, cJ6_bitCount_0f7a4, 1, some .int, (0, 0), (0, 0))
set_option maxRecDepth 100000 in
theorem ckJ6_bitCount_0f7a4 : cOK mJ6_bitCount_0f7a4 1 := ⟨gG_of (by decide +kernel) rfl, gG_of (by decide +kernel) rfl, by decide +kernel⟩
set_option maxRecDepth 100000 in
theorem skJ6_bitCount_0f7a4 : Cond.static mJ6_bitCount_0f7a4.1 ∈ gG := gG_of (by decide +kernel) rfl
set_option maxRecDepth 100000 in
theorem cnJ6_265 : Cond.constant RJ6 265 (1431655765) ∈ gG := gG_of (by decide +kernel) rfl
set_option maxRecDepth 100000 in
theorem cnJ6_266 : Cond.constant RJ6 266 (858993459) ∈ gG := gG_of (by decide +kernel) rfl
set_option maxRecDepth 100000 in
theorem cnJ6_267 : Cond.constant RJ6 267 (252645135) ∈ gG := gG_of (by decide +kernel) rfl
set_option maxRecDepth 100000 in
theorem mlX0_3 : Cond.methodLink RX0 3 objectInit ∈ gG := gG_of (by decide +kernel) rfl
set_option maxRecDepth 100000 in
theorem fwX0_9 : FW RX0 9 0 0 := ⟨by decide, by decide, Or.inl (gG_of (by decide +kernel) rfl)⟩
set_option maxRecDepth 100000 in
theorem fwX0_15 : FW RX0 15 0 1 := ⟨by decide, by decide, Or.inl (gG_of (by decide +kernel) rfl)⟩
set_option maxRecDepth 100000 in
theorem mlX0_19 : Cond.methodLink RX0 19 yX0_add ∈ gG := gG_of (by decide +kernel) rfl
set_option maxRecDepth 100000 in
theorem mlX0_23 : Cond.methodLink RX0 23 yX0_clear ∈ gG := gG_of (by decide +kernel) rfl
set_option maxRecDepth 100000 in
theorem mlX0_26 : Cond.methodLink RX0 26 yX0_at ∈ gG := gG_of (by decide +kernel) rfl
set_option maxRecDepth 100000 in
theorem fwX0_30 : FW RX0 30 2 3 := ⟨by decide, by decide, Or.inr ⟨"StoragePath", by decide +kernel⟩⟩
set_option maxRecDepth 100000 in
theorem fwX0_35 : FW RX0 35 2 0 := ⟨by decide, by decide, Or.inr ⟨"StoragePath", by decide +kernel⟩⟩
set_option maxRecDepth 100000 in
theorem fwX0_38 : FW RX0 38 2 4 := ⟨by decide, by decide, Or.inr ⟨"StoragePath", by decide +kernel⟩⟩
set_option maxRecDepth 100000 in
theorem fwX0_41 : FW RX0 41 2 5 := ⟨by decide, by decide, Or.inr ⟨"StoragePath", by decide +kernel⟩⟩
set_option maxRecDepth 100000 in
theorem mlX0_44 : Cond.methodLink RX0 44 yX0_addNumber ∈ gG := gG_of (by decide +kernel) rfl
set_option maxRecDepth 100000 in
theorem cnX0_47 : Cond.constant RX0 47 (1378996274) ∈ gG := gG_of (by decide +kernel) rfl
set_option maxRecDepth 100000 in
theorem cnX0_48 : Cond.constant RX0 48 (79764919) ∈ gG := gG_of (by decide +kernel) rfl
set_option maxRecDepth 100000 in
theorem mlX1_3 : Cond.methodLink RX1 3 objectInit ∈ gG := gG_of (by decide +kernel) rfl
set_option maxRecDepth 100000 in
theorem fwX1_9 : FW RX1 9 1 0 := ⟨by decide, by decide, Or.inl (gG_of (by decide +kernel) rfl)⟩
set_option maxRecDepth 100000 in
theorem fwX1_15 : FW RX1 15 1 1 := ⟨by decide, by decide, Or.inl (gG_of (by decide +kernel) rfl)⟩
set_option maxRecDepth 100000 in
theorem mlX1_18 : Cond.methodLink RX1 18 yJ6_bitCount_0f7a4 ∈ gG := gG_of (by decide +kernel) rfl
set_option maxRecDepth 100000 in
theorem mlX2_3 : Cond.methodLink RX2 3 objectInit ∈ gG := gG_of (by decide +kernel) rfl
set_option maxRecDepth 100000 in
theorem fwX2_9 : FW RX2 9 2 1 := ⟨by decide, by decide, Or.inl (gG_of (by decide +kernel) rfl)⟩
set_option maxRecDepth 100000 in
theorem fwX2_15 : FW RX2 15 2 2 := ⟨by decide, by decide, Or.inl (gG_of (by decide +kernel) rfl)⟩
set_option maxRecDepth 100000 in
theorem fwX2_19 : FW RX2 19 2 0 := ⟨by decide, by decide, Or.inl (gG_of (by decide +kernel) rfl)⟩
set_option maxRecDepth 100000 in
theorem fwX2_22 : FW RX2 22 2 3 := ⟨by decide, by decide, Or.inl (gG_of (by decide +kernel) rfl)⟩
set_option maxRecDepth 100000 in
theorem fwX2_25 : FW RX2 25 2 4 := ⟨by decide, by decide, Or.inl (gG_of (by decide +kernel) rfl)⟩
set_option maxRecDepth 100000 in
theorem fwX2_28 : FW RX2 28 2 5 := ⟨by decide, by decide, Or.inl (gG_of (by decide +kernel) rfl)⟩
set_option maxRecDepth 100000 in
theorem fwX2_31 : FW RX2 31 2 6 := ⟨by decide, by decide, Or.inl (gG_of (by decide +kernel) rfl)⟩
set_option maxRecDepth 100000 in
theorem fwX2_34 : FW RX2 34 2 7 := ⟨by decide, by decide, Or.inl (gG_of (by decide +kernel) rfl)⟩
set_option maxRecDepth 100000 in
theorem mlX2_37 : Cond.methodLink RX2 37 yX2_setNumber ∈ gG := gG_of (by decide +kernel) rfl
set_option maxRecDepth 100000 in
theorem mlX2_41 : Cond.methodLink RX2 41 yX2_numberAt ∈ gG := gG_of (by decide +kernel) rfl
set_option maxRecDepth 100000 in
theorem mlX3_3 : Cond.methodLink RX3 3 objectInit ∈ gG := gG_of (by decide +kernel) rfl
set_option maxRecDepth 100000 in
theorem fwX3_9 : FW RX3 9 3 0 := ⟨by decide, by decide, Or.inl (gG_of (by decide +kernel) rfl)⟩
set_option maxRecDepth 100000 in
theorem fwX3_15 : FW RX3 15 3 1 := ⟨by decide, by decide, Or.inl (gG_of (by decide +kernel) rfl)⟩
set_option maxRecDepth 100000 in
theorem fwX3_18 : FW RX3 18 3 2 := ⟨by decide, by decide, Or.inl (gG_of (by decide +kernel) rfl)⟩
set_option maxRecDepth 100000 in
theorem mlX3_21 : Cond.methodLink RX3 21 yX3_placeInCache ∈ gG := gG_of (by decide +kernel) rfl
set_option maxRecDepth 100000 in
theorem mlX3_25 : Cond.methodLink RX3 25 yX3_numberOnDisk ∈ gG := gG_of (by decide +kernel) rfl
set_option maxRecDepth 100000 in
theorem fwX3_28 : FW RX3 28 3 3 := ⟨by decide, by decide, Or.inl (gG_of (by decide +kernel) rfl)⟩
set_option maxRecDepth 100000 in
theorem mlX3_32 : Cond.methodLink RX3 32 yX3_putOnDisk ∈ gG := gG_of (by decide +kernel) rfl
set_option maxRecDepth 100000 in
theorem mlX3_36 : Cond.methodLink RX3 36 yX3_removeFromCache ∈ gG := gG_of (by decide +kernel) rfl
set_option maxRecDepth 100000 in
theorem mlX4_3 : Cond.methodLink RX4 3 objectInit ∈ gG := gG_of (by decide +kernel) rfl
set_option maxRecDepth 100000 in
theorem fwX4_9 : FW RX4 9 4 1 := ⟨by decide, by decide, Or.inl (gG_of (by decide +kernel) rfl)⟩
set_option maxRecDepth 100000 in
theorem mlX4_17 : Cond.methodLink RX4 17 yX0_init ∈ gG ∨ ∃ host, Cond.methodLinkNest RX4 17 yX0_init host ∈ lw_tbl := Or.inr ⟨"StoragePath", by decide +kernel⟩
set_option maxRecDepth 100000 in
theorem fwX4_18 : FW RX4 18 4 2 := ⟨by decide, by decide, Or.inl (gG_of (by decide +kernel) rfl)⟩
set_option maxRecDepth 100000 in
theorem fwX4_22 : FW RX4 22 4 3 := ⟨by decide, by decide, Or.inl (gG_of (by decide +kernel) rfl)⟩
set_option maxRecDepth 100000 in
theorem fwX4_25 : FW RX4 25 4 4 := ⟨by decide, by decide, Or.inl (gG_of (by decide +kernel) rfl)⟩
set_option maxRecDepth 100000 in
theorem fwX4_28 : FW RX4 28 4 6 := ⟨by decide, by decide, Or.inl (gG_of (by decide +kernel) rfl)⟩
set_option maxRecDepth 100000 in
theorem fwX4_31 : FW RX4 31 4 7 := ⟨by decide, by decide, Or.inl (gG_of (by decide +kernel) rfl)⟩
set_option maxRecDepth 100000 in
theorem fwX4_34 : FW RX4 34 4 9 := ⟨by decide, by decide, Or.inl (gG_of (by decide +kernel) rfl)⟩
set_option maxRecDepth 100000 in
theorem fwX4_37 : FW RX4 37 4 0 := ⟨by decide, by decide, Or.inl (gG_of (by decide +kernel) rfl)⟩
set_option maxRecDepth 100000 in
theorem cnX4_41 : Cond.constant RX4 41 (65535) ∈ gG := gG_of (by decide +kernel) rfl
set_option maxRecDepth 100000 in
theorem cnX4_42 : Cond.constant RX4 42 (40977) ∈ gG := gG_of (by decide +kernel) rfl
set_option maxRecDepth 100000 in
theorem fwX4_43 : FW RX4 43 4 5 := ⟨by decide, by decide, Or.inl (gG_of (by decide +kernel) rfl)⟩
set_option maxRecDepth 100000 in
theorem fwX4_47 : FW RX4 47 4 10 := ⟨by decide, by decide, Or.inl (gG_of (by decide +kernel) rfl)⟩
set_option maxRecDepth 100000 in
theorem mlX4_50 : Cond.methodLink RX4 50 yX4_placeOfFinding ∈ gG := gG_of (by decide +kernel) rfl
set_option maxRecDepth 100000 in
theorem fwX4_54 : FW RX4 54 4 8 := ⟨by decide, by decide, Or.inl (gG_of (by decide +kernel) rfl)⟩
set_option maxRecDepth 100000 in
theorem mlX4_57 : Cond.methodLink RX4 57 yX4_sendOnce ∈ gG := gG_of (by decide +kernel) rfl
set_option maxRecDepth 100000 in
theorem fwX4_61 : FW RX4 61 4 12 := ⟨by decide, by decide, Or.inl (gG_of (by decide +kernel) rfl)⟩
set_option maxRecDepth 100000 in
theorem mlX4_64 : Cond.methodLink RX4 64 yX0_copy ∈ gG := gG_of (by decide +kernel) rfl
set_option maxRecDepth 100000 in
theorem mlX4_68 : Cond.methodLink RX4 68 yX0_size ∈ gG := gG_of (by decide +kernel) rfl
set_option maxRecDepth 100000 in
theorem mlX4_72 : Cond.methodLink RX4 72 yX0_checksum ∈ gG := gG_of (by decide +kernel) rfl
set_option maxRecDepth 100000 in
theorem mlX4_75 : Cond.methodLink RX4 75 yX0_addNumber ∈ gG := gG_of (by decide +kernel) rfl
set_option maxRecDepth 100000 in
theorem mlX4_79 : Cond.methodLink RX4 79 yX4_layOnWire ∈ gG := gG_of (by decide +kernel) rfl
set_option maxRecDepth 100000 in
theorem mlX4_82 : Cond.methodLink RX4 82 yX4_turnFaultyBits ∈ gG := gG_of (by decide +kernel) rfl
set_option maxRecDepth 100000 in
theorem mlX4_85 : Cond.methodLink RX4 85 yX4_receive ∈ gG := gG_of (by decide +kernel) rfl
set_option maxRecDepth 100000 in
theorem fwX4_88 : FW RX4 88 4 11 := ⟨by decide, by decide, Or.inl (gG_of (by decide +kernel) rfl)⟩
set_option maxRecDepth 100000 in
theorem mlX4_91 : Cond.methodLink RX4 91 yX0_at ∈ gG := gG_of (by decide +kernel) rfl
set_option maxRecDepth 100000 in
theorem mlX4_94 : Cond.methodLink RX4 94 yX4_scrambled ∈ gG := gG_of (by decide +kernel) rfl
set_option maxRecDepth 100000 in
theorem mlX4_98 : Cond.methodLink RX4 98 yX1_wordOf ∈ gG := gG_of (by decide +kernel) rfl
set_option maxRecDepth 100000 in
theorem mlX4_104 : Cond.methodLink RX4 104 yX4_putBits ∈ gG := gG_of (by decide +kernel) rfl
set_option maxRecDepth 100000 in
theorem mlX4_107 : Cond.methodLink RX4 107 yX0_clear ∈ gG := gG_of (by decide +kernel) rfl
set_option maxRecDepth 100000 in
theorem mlX4_110 : Cond.methodLink RX4 110 yX4_wordAt ∈ gG := gG_of (by decide +kernel) rfl
set_option maxRecDepth 100000 in
theorem mlX4_113 : Cond.methodLink RX4 113 yX1_valueOf ∈ gG := gG_of (by decide +kernel) rfl
set_option maxRecDepth 100000 in
theorem mlX4_116 : Cond.methodLink RX4 116 yX4_isMisplaced ∈ gG := gG_of (by decide +kernel) rfl
set_option maxRecDepth 100000 in
theorem mlX4_120 : Cond.methodLink RX4 120 yX0_add ∈ gG := gG_of (by decide +kernel) rfl
set_option maxRecDepth 100000 in
theorem mlX4_123 : Cond.methodLink RX4 123 yX0_numberAt ∈ gG := gG_of (by decide +kernel) rfl
set_option maxRecDepth 100000 in
theorem mlX5_1 : Cond.methodLink RX5 1 objectInit ∈ gG := gG_of (by decide +kernel) rfl
set_option maxRecDepth 100000 in
theorem mlX5_9 : Cond.methodLink RX5 9 yX1_init ∈ gG := gG_of (by decide +kernel) rfl
set_option maxRecDepth 100000 in
theorem fwX5_10 : FW RX5 10 5 0 := ⟨by decide, by decide, Or.inl (gG_of (by decide +kernel) rfl)⟩
set_option maxRecDepth 100000 in
theorem mlX5_18 : Cond.methodLink RX5 18 yX4_init ∈ gG := gG_of (by decide +kernel) rfl
set_option maxRecDepth 100000 in
theorem fwX5_21 : FW RX5 21 5 1 := ⟨by decide, by decide, Or.inl (gG_of (by decide +kernel) rfl)⟩
set_option maxRecDepth 100000 in
theorem mlX5_27 : Cond.methodLink RX5 27 yX3_init ∈ gG ∨ ∃ host, Cond.methodLinkNest RX5 27 yX3_init host ∈ lw_tbl := Or.inr ⟨"StoragePath", by decide +kernel⟩
set_option maxRecDepth 100000 in
theorem fwX5_28 : FW RX5 28 5 2 := ⟨by decide, by decide, Or.inl (gG_of (by decide +kernel) rfl)⟩
set_option maxRecDepth 100000 in
theorem mlX5_34 : Cond.methodLink RX5 34 yX0_init ∈ gG ∨ ∃ host, Cond.methodLinkNest RX5 34 yX0_init host ∈ lw_tbl := Or.inr ⟨"StoragePath", by decide +kernel⟩
set_option maxRecDepth 100000 in
theorem fwX5_35 : FW RX5 35 5 3 := ⟨by decide, by decide, Or.inl (gG_of (by decide +kernel) rfl)⟩
set_option maxRecDepth 100000 in
theorem fwX5_39 : FW RX5 39 5 4 := ⟨by decide, by decide, Or.inl (gG_of (by decide +kernel) rfl)⟩
set_option maxRecDepth 100000 in
theorem fwX5_44 : FW RX5 44 5 5 := ⟨by decide, by decide, Or.inl (gG_of (by decide +kernel) rfl)⟩
set_option maxRecDepth 100000 in
theorem fwX5_48 : FW RX5 48 5 6 := ⟨by decide, by decide, Or.inl (gG_of (by decide +kernel) rfl)⟩
set_option maxRecDepth 100000 in
theorem fwX5_52 : FW RX5 52 5 7 := ⟨by decide, by decide, Or.inl (gG_of (by decide +kernel) rfl)⟩
set_option maxRecDepth 100000 in
theorem mlX5_56 : Cond.methodLink RX5 56 yX2_init ∈ gG := gG_of (by decide +kernel) rfl
set_option maxRecDepth 100000 in
theorem mlX5_59 : Cond.methodLink RX5 59 yX1_wordOf ∈ gG := gG_of (by decide +kernel) rfl
set_option maxRecDepth 100000 in
theorem mlX5_63 : Cond.methodLink RX5 63 yX1_valueOf ∈ gG := gG_of (by decide +kernel) rfl
set_option maxRecDepth 100000 in
theorem mlX5_66 : Cond.methodLink RX5 66 yX0_size ∈ gG := gG_of (by decide +kernel) rfl
set_option maxRecDepth 100000 in
theorem mlX5_70 : Cond.methodLink RX5 70 yX0_add ∈ gG := gG_of (by decide +kernel) rfl
set_option maxRecDepth 100000 in
theorem mlX5_73 : Cond.methodLink RX5 73 yX0_checksum ∈ gG := gG_of (by decide +kernel) rfl
set_option maxRecDepth 100000 in
theorem mlX5_77 : Cond.methodLink RX5 77 yX4_sendOnce ∈ gG := gG_of (by decide +kernel) rfl
set_option maxRecDepth 100000 in
theorem mlX5_81 : Cond.methodLink RX5 81 yX0_clear ∈ gG := gG_of (by decide +kernel) rfl
set_option maxRecDepth 100000 in
theorem mlX5_84 : Cond.methodLink RX5 84 yX4_bitAt ∈ gG := gG_of (by decide +kernel) rfl
set_option maxRecDepth 100000 in
theorem mlX5_87 : Cond.methodLink RX5 87 yX4_findingFromEnd ∈ gG := gG_of (by decide +kernel) rfl
set_option maxRecDepth 100000 in
theorem cnX5_90 : Cond.constant RX5 90 (1000000) ∈ gG := gG_of (by decide +kernel) rfl
set_option maxRecDepth 100000 in
theorem mlX5_91 : Cond.methodLink RX5 91 yX4_addFault ∈ gG := gG_of (by decide +kernel) rfl
set_option maxRecDepth 100000 in
theorem mlX5_95 : Cond.methodLink RX5 95 yX4_dropFaults ∈ gG := gG_of (by decide +kernel) rfl
set_option maxRecDepth 100000 in
theorem mlX5_98 : Cond.methodLink RX5 98 yX5_issue ∈ gG := gG_of (by decide +kernel) rfl
set_option maxRecDepth 100000 in
theorem mlX5_102 : Cond.methodLink RX5 102 yX5_commandOf ∈ gG := gG_of (by decide +kernel) rfl
set_option maxRecDepth 100000 in
theorem mlX5_106 : Cond.methodLink RX5 106 yX2_setNumbers ∈ gG := gG_of (by decide +kernel) rfl
set_option maxRecDepth 100000 in
theorem mlX5_110 : Cond.methodLink RX5 110 yX5_nextCommand ∈ gG := gG_of (by decide +kernel) rfl
set_option maxRecDepth 100000 in
theorem mlX5_114 : Cond.methodLink RX5 114 yX2_lastSector ∈ gG := gG_of (by decide +kernel) rfl
set_option maxRecDepth 100000 in
theorem fwX5_117 : FW RX5 117 5 8 := ⟨by decide, by decide, Or.inl (gG_of (by decide +kernel) rfl)⟩
set_option maxRecDepth 100000 in
theorem mlX5_120 : Cond.methodLink RX5 120 yX5_carryOut ∈ gG := gG_of (by decide +kernel) rfl
set_option maxRecDepth 100000 in
theorem mlX5_124 : Cond.methodLink RX5 124 yX2_end ∈ gG := gG_of (by decide +kernel) rfl
set_option maxRecDepth 100000 in
theorem fwX5_127 : FW RX5 127 2 0 := ⟨by decide, by decide, Or.inr ⟨"StoragePath", by decide +kernel⟩⟩
set_option maxRecDepth 100000 in
theorem mlX5_130 : Cond.methodLink RX5 130 yX5_step ∈ gG := gG_of (by decide +kernel) rfl
set_option maxRecDepth 100000 in
theorem fwX5_133 : FW RX5 133 2 2 := ⟨by decide, by decide, Or.inr ⟨"StoragePath", by decide +kernel⟩⟩
set_option maxRecDepth 100000 in
theorem fwX5_136 : FW RX5 136 2 3 := ⟨by decide, by decide, Or.inr ⟨"StoragePath", by decide +kernel⟩⟩
set_option maxRecDepth 100000 in
theorem fwX5_139 : FW RX5 139 2 7 := ⟨by decide, by decide, Or.inr ⟨"StoragePath", by decide +kernel⟩⟩
set_option maxRecDepth 100000 in
theorem mlX5_142 : Cond.methodLink RX5 142 yX2_copyNumbers ∈ gG := gG_of (by decide +kernel) rfl
set_option maxRecDepth 100000 in
theorem mlX5_146 : Cond.methodLink RX5 146 yX3_dropCache ∈ gG := gG_of (by decide +kernel) rfl
set_option maxRecDepth 100000 in
theorem mlX5_149 : Cond.methodLink RX5 149 yX3_numberAsRead ∈ gG := gG_of (by decide +kernel) rfl
set_option maxRecDepth 100000 in
theorem mlX5_152 : Cond.methodLink RX5 152 yX3_numberOnDisk ∈ gG := gG_of (by decide +kernel) rfl
set_option maxRecDepth 100000 in
theorem mlX5_155 : Cond.methodLink RX5 155 yX3_sectorAtPlace ∈ gG := gG_of (by decide +kernel) rfl
set_option maxRecDepth 100000 in
theorem fwX5_158 : FW RX5 158 4 10 := ⟨by decide, by decide, Or.inr ⟨"StoragePath", by decide +kernel⟩⟩
set_option maxRecDepth 100000 in
theorem fwX5_161 : FW RX5 161 4 11 := ⟨by decide, by decide, Or.inr ⟨"StoragePath", by decide +kernel⟩⟩
set_option maxRecDepth 100000 in
theorem fwX5_164 : FW RX5 164 4 12 := ⟨by decide, by decide, Or.inr ⟨"StoragePath", by decide +kernel⟩⟩
set_option maxRecDepth 100000 in
theorem fwX5_167 : FW RX5 167 4 8 := ⟨by decide, by decide, Or.inr ⟨"StoragePath", by decide +kernel⟩⟩
set_option maxRecDepth 100000 in
theorem fwX5_170 : FW RX5 170 3 3 := ⟨by decide, by decide, Or.inr ⟨"StoragePath", by decide +kernel⟩⟩
set_option maxRecDepth 100000 in
theorem mlX5_173 : Cond.methodLink RX5 173 yX5_commandsAt ∈ gG := gG_of (by decide +kernel) rfl
set_option maxRecDepth 100000 in
theorem fwX5_176 : FW RX5 176 4 5 := ⟨by decide, by decide, Or.inr ⟨"StoragePath", by decide +kernel⟩⟩
set_option maxRecDepth 100000 in
theorem fwX5_179 : FW RX5 179 5 9 := ⟨by decide, by decide, Or.inl (gG_of (by decide +kernel) rfl)⟩
set_option maxRecDepth 100000 in
theorem mlX5_182 : Cond.methodLink RX5 182 yX2_begin ∈ gG := gG_of (by decide +kernel) rfl
set_option maxRecDepth 100000 in
theorem mlX5_185 : Cond.methodLink RX5 185 yX5_goesAhead ∈ gG := gG_of (by decide +kernel) rfl
set_option maxRecDepth 100000 in
theorem mlX5_189 : Cond.methodLink RX5 189 yX5_distance ∈ gG := gG_of (by decide +kernel) rfl
set_option maxRecDepth 100000 in
theorem fwX5_192 : FW RX5 192 2 6 := ⟨by decide, by decide, Or.inr ⟨"StoragePath", by decide +kernel⟩⟩
set_option maxRecDepth 100000 in
theorem fwX5_195 : FW RX5 195 2 4 := ⟨by decide, by decide, Or.inr ⟨"StoragePath", by decide +kernel⟩⟩
set_option maxRecDepth 100000 in
theorem mlX5_198 : Cond.methodLink RX5 198 yX0_setOrder ∈ gG := gG_of (by decide +kernel) rfl
set_option maxRecDepth 100000 in
theorem mlX5_202 : Cond.methodLink RX5 202 yX4_deliver ∈ gG := gG_of (by decide +kernel) rfl
set_option maxRecDepth 100000 in
theorem fwX5_206 : FW RX5 206 2 5 := ⟨by decide, by decide, Or.inr ⟨"StoragePath", by decide +kernel⟩⟩
set_option maxRecDepth 100000 in
theorem mlX5_209 : Cond.methodLink RX5 209 yX2_numberAt ∈ gG := gG_of (by decide +kernel) rfl
set_option maxRecDepth 100000 in
theorem mlX5_212 : Cond.methodLink RX5 212 yX0_setNumber ∈ gG := gG_of (by decide +kernel) rfl
set_option maxRecDepth 100000 in
theorem mlX5_216 : Cond.methodLink RX5 216 yX5_keepNumber ∈ gG := gG_of (by decide +kernel) rfl
set_option maxRecDepth 100000 in
theorem mlX5_220 : Cond.methodLink RX5 220 yX3_layAll ∈ gG := gG_of (by decide +kernel) rfl
set_option maxRecDepth 100000 in
theorem mlX5_223 : Cond.methodLink RX5 223 yX0_setAnswer ∈ gG := gG_of (by decide +kernel) rfl
set_option maxRecDepth 100000 in
theorem mlX5_226 : Cond.methodLink RX5 226 yX2_setNumber ∈ gG := gG_of (by decide +kernel) rfl
set_option maxRecDepth 100000 in
theorem mlX5_227 : Cond.methodLink RX5 227 yX3_putInCache ∈ gG := gG_of (by decide +kernel) rfl
set_option maxRecDepth 100000 in
theorem mlX5_230 : Cond.methodLink RX5 230 yX3_putThrough ∈ gG := gG_of (by decide +kernel) rfl
set_option maxRecDepth 100000 in
theorem mlX6_1 : Cond.methodLink RX6 1 objectInit ∈ gG := gG_of (by decide +kernel) rfl
set_option maxRecDepth 100000 in
theorem fwX6_7 : FW RX6 7 6 0 := ⟨by decide, by decide, Or.inl (gG_of (by decide +kernel) rfl)⟩
set_option maxRecDepth 100000 in
theorem fwX6_13 : FW RX6 13 6 1 := ⟨by decide, by decide, Or.inl (gG_of (by decide +kernel) rfl)⟩
set_option maxRecDepth 100000 in
theorem fwX6_16 : FW RX6 16 6 2 := ⟨by decide, by decide, Or.inl (gG_of (by decide +kernel) rfl)⟩
set_option maxRecDepth 100000 in
theorem fwX6_19 : FW RX6 19 6 4 := ⟨by decide, by decide, Or.inl (gG_of (by decide +kernel) rfl)⟩
set_option maxRecDepth 100000 in
theorem fwX6_22 : FW RX6 22 6 6 := ⟨by decide, by decide, Or.inl (gG_of (by decide +kernel) rfl)⟩
set_option maxRecDepth 100000 in
theorem fwX6_25 : FW RX6 25 6 7 := ⟨by decide, by decide, Or.inl (gG_of (by decide +kernel) rfl)⟩
set_option maxRecDepth 100000 in
theorem fwX6_28 : FW RX6 28 6 11 := ⟨by decide, by decide, Or.inl (gG_of (by decide +kernel) rfl)⟩
set_option maxRecDepth 100000 in
theorem fwX6_31 : FW RX6 31 6 13 := ⟨by decide, by decide, Or.inl (gG_of (by decide +kernel) rfl)⟩
set_option maxRecDepth 100000 in
theorem fwX6_34 : FW RX6 34 6 15 := ⟨by decide, by decide, Or.inl (gG_of (by decide +kernel) rfl)⟩
set_option maxRecDepth 100000 in
theorem fwX6_37 : FW RX6 37 6 16 := ⟨by decide, by decide, Or.inl (gG_of (by decide +kernel) rfl)⟩
set_option maxRecDepth 100000 in
theorem fwX6_40 : FW RX6 40 6 17 := ⟨by decide, by decide, Or.inl (gG_of (by decide +kernel) rfl)⟩
set_option maxRecDepth 100000 in
theorem fwX6_43 : FW RX6 43 6 19 := ⟨by decide, by decide, Or.inl (gG_of (by decide +kernel) rfl)⟩
set_option maxRecDepth 100000 in
theorem fwX6_46 : FW RX6 46 6 20 := ⟨by decide, by decide, Or.inl (gG_of (by decide +kernel) rfl)⟩
set_option maxRecDepth 100000 in
theorem fwX6_49 : FW RX6 49 6 21 := ⟨by decide, by decide, Or.inl (gG_of (by decide +kernel) rfl)⟩
set_option maxRecDepth 100000 in
theorem fwX6_52 : FW RX6 52 6 22 := ⟨by decide, by decide, Or.inl (gG_of (by decide +kernel) rfl)⟩
set_option maxRecDepth 100000 in
theorem fwX6_55 : FW RX6 55 6 23 := ⟨by decide, by decide, Or.inl (gG_of (by decide +kernel) rfl)⟩
set_option maxRecDepth 100000 in
theorem fwX6_58 : FW RX6 58 6 24 := ⟨by decide, by decide, Or.inl (gG_of (by decide +kernel) rfl)⟩
set_option maxRecDepth 100000 in
theorem fwX6_61 : FW RX6 61 6 25 := ⟨by decide, by decide, Or.inl (gG_of (by decide +kernel) rfl)⟩
set_option maxRecDepth 100000 in
theorem fwX6_64 : FW RX6 64 6 26 := ⟨by decide, by decide, Or.inl (gG_of (by decide +kernel) rfl)⟩
set_option maxRecDepth 100000 in
theorem fwX6_67 : FW RX6 67 6 27 := ⟨by decide, by decide, Or.inl (gG_of (by decide +kernel) rfl)⟩
set_option maxRecDepth 100000 in
theorem fwX6_70 : FW RX6 70 6 32 := ⟨by decide, by decide, Or.inl (gG_of (by decide +kernel) rfl)⟩
set_option maxRecDepth 100000 in
theorem mlX6_73 : Cond.methodLink RX6 73 yX6_ones ∈ gG := gG_of (by decide +kernel) rfl
set_option maxRecDepth 100000 in
theorem mlX6_77 : Cond.methodLink RX6 77 yX6_isEven ∈ gG := gG_of (by decide +kernel) rfl
set_option maxRecDepth 100000 in
theorem mlX6_81 : Cond.methodLink RX6 81 yX6_in ∈ gG := gG_of (by decide +kernel) rfl
set_option maxRecDepth 100000 in
theorem mlX6_85 : Cond.methodLink RX6 85 yX6_wordOf ∈ gG := gG_of (by decide +kernel) rfl
set_option maxRecDepth 100000 in
theorem mlX6_89 : Cond.methodLink RX6 89 yX6_unevenOf ∈ gG := gG_of (by decide +kernel) rfl
set_option maxRecDepth 100000 in
theorem mlX6_92 : Cond.methodLink RX6 92 yX6_valueOf ∈ gG := gG_of (by decide +kernel) rfl
set_option maxRecDepth 100000 in
theorem fwX6_95 : FW RX6 95 6 3 := ⟨by decide, by decide, Or.inl (gG_of (by decide +kernel) rfl)⟩
set_option maxRecDepth 100000 in
theorem cnX6_99 : Cond.constant RX6 99 (79764919) ∈ gG := gG_of (by decide +kernel) rfl
set_option maxRecDepth 100000 in
theorem cnX6_100 : Cond.constant RX6 100 (1378996274) ∈ gG := gG_of (by decide +kernel) rfl
set_option maxRecDepth 100000 in
theorem mlX6_101 : Cond.methodLink RX6 101 yX6_checkByte ∈ gG := gG_of (by decide +kernel) rfl
set_option maxRecDepth 100000 in
theorem mlX6_105 : Cond.methodLink RX6 105 yX6_checkOf ∈ gG := gG_of (by decide +kernel) rfl
set_option maxRecDepth 100000 in
theorem fwX6_109 : FW RX6 109 6 33 := ⟨by decide, by decide, Or.inl (gG_of (by decide +kernel) rfl)⟩
set_option maxRecDepth 100000 in
theorem cnX6_112 : Cond.constant RX6 112 (65535) ∈ gG := gG_of (by decide +kernel) rfl
set_option maxRecDepth 100000 in
theorem cnX6_113 : Cond.constant RX6 113 (40977) ∈ gG := gG_of (by decide +kernel) rfl
set_option maxRecDepth 100000 in
theorem fwX6_114 : FW RX6 114 6 34 := ⟨by decide, by decide, Or.inl (gG_of (by decide +kernel) rfl)⟩
set_option maxRecDepth 100000 in
theorem fwX6_118 : FW RX6 118 6 12 := ⟨by decide, by decide, Or.inl (gG_of (by decide +kernel) rfl)⟩
set_option maxRecDepth 100000 in
theorem mlX6_121 : Cond.methodLink RX6 121 yX6_wireWord ∈ gG := gG_of (by decide +kernel) rfl
set_option maxRecDepth 100000 in
theorem fwX6_125 : FW RX6 125 6 14 := ⟨by decide, by decide, Or.inl (gG_of (by decide +kernel) rfl)⟩
set_option maxRecDepth 100000 in
theorem mlX6_128 : Cond.methodLink RX6 128 yX6_nextScramble ∈ gG := gG_of (by decide +kernel) rfl
set_option maxRecDepth 100000 in
theorem fwX6_132 : FW RX6 132 6 5 := ⟨by decide, by decide, Or.inl (gG_of (by decide +kernel) rfl)⟩
set_option maxRecDepth 100000 in
theorem fwX6_135 : FW RX6 135 6 8 := ⟨by decide, by decide, Or.inl (gG_of (by decide +kernel) rfl)⟩
set_option maxRecDepth 100000 in
theorem mlX6_138 : Cond.methodLink RX6 138 yX6_findWord ∈ gG := gG_of (by decide +kernel) rfl
set_option maxRecDepth 100000 in
theorem mlX6_141 : Cond.methodLink RX6 141 yX6_layWire ∈ gG := gG_of (by decide +kernel) rfl
set_option maxRecDepth 100000 in
theorem mlX6_144 : Cond.methodLink RX6 144 yX6_receive ∈ gG := gG_of (by decide +kernel) rfl
set_option maxRecDepth 100000 in
theorem fwX6_147 : FW RX6 147 6 9 := ⟨by decide, by decide, Or.inl (gG_of (by decide +kernel) rfl)⟩
set_option maxRecDepth 100000 in
theorem mlX6_150 : Cond.methodLink RX6 150 yX6_sendOnce ∈ gG := gG_of (by decide +kernel) rfl
set_option maxRecDepth 100000 in
theorem fwX6_153 : FW RX6 153 6 10 := ⟨by decide, by decide, Or.inl (gG_of (by decide +kernel) rfl)⟩
set_option maxRecDepth 100000 in
theorem cnX6_156 : Cond.constant RX6 156 (1000000) ∈ gG := gG_of (by decide +kernel) rfl
set_option maxRecDepth 100000 in
theorem fwX6_157 : FW RX6 157 6 28 := ⟨by decide, by decide, Or.inl (gG_of (by decide +kernel) rfl)⟩
set_option maxRecDepth 100000 in
theorem mlX6_160 : Cond.methodLink RX6 160 yX6_isTag ∈ gG := gG_of (by decide +kernel) rfl
set_option maxRecDepth 100000 in
theorem mlX6_163 : Cond.methodLink RX6 163 yX6_against ∈ gG := gG_of (by decide +kernel) rfl
set_option maxRecDepth 100000 in
theorem mlX6_167 : Cond.methodLink RX6 167 yX6_issue ∈ gG := gG_of (by decide +kernel) rfl
set_option maxRecDepth 100000 in
theorem fwX6_171 : FW RX6 171 6 18 := ⟨by decide, by decide, Or.inl (gG_of (by decide +kernel) rfl)⟩
set_option maxRecDepth 100000 in
theorem mlX6_174 : Cond.methodLink RX6 174 yX6_leave ∈ gG := gG_of (by decide +kernel) rfl
set_option maxRecDepth 100000 in
theorem mlX6_177 : Cond.methodLink RX6 177 yX6_placeOf ∈ gG := gG_of (by decide +kernel) rfl
set_option maxRecDepth 100000 in
theorem mlX6_180 : Cond.methodLink RX6 180 yX6_lay ∈ gG := gG_of (by decide +kernel) rfl
set_option maxRecDepth 100000 in
theorem mlX6_183 : Cond.methodLink RX6 183 yX6_send ∈ gG := gG_of (by decide +kernel) rfl
set_option maxRecDepth 100000 in
theorem mlX6_187 : Cond.methodLink RX6 187 yX6_lastOf ∈ gG := gG_of (by decide +kernel) rfl
set_option maxRecDepth 100000 in
theorem mlX6_190 : Cond.methodLink RX6 190 yX6_three ∈ gG := gG_of (by decide +kernel) rfl
set_option maxRecDepth 100000 in
theorem mlX6_194 : Cond.methodLink RX6 194 yX6_reads ∈ gG := gG_of (by decide +kernel) rfl
set_option maxRecDepth 100000 in
theorem mlX6_197 : Cond.methodLink RX6 197 yX6_number ∈ gG := gG_of (by decide +kernel) rfl
set_option maxRecDepth 100000 in
theorem mlX6_201 : Cond.methodLink RX6 201 yX6_through ∈ gG := gG_of (by decide +kernel) rfl
set_option maxRecDepth 100000 in
theorem mlX6_204 : Cond.methodLink RX6 204 yX6_written ∈ gG := gG_of (by decide +kernel) rfl
set_option maxRecDepth 100000 in
theorem fwX6_207 : FW RX6 207 6 29 := ⟨by decide, by decide, Or.inl (gG_of (by decide +kernel) rfl)⟩
set_option maxRecDepth 100000 in
theorem fwX6_210 : FW RX6 210 6 30 := ⟨by decide, by decide, Or.inl (gG_of (by decide +kernel) rfl)⟩
set_option maxRecDepth 100000 in
theorem mlX6_213 : Cond.methodLink RX6 213 yX6_isAhead ∈ gG := gG_of (by decide +kernel) rfl
set_option maxRecDepth 100000 in
theorem mlX6_217 : Cond.methodLink RX6 217 yX6_next ∈ gG := gG_of (by decide +kernel) rfl
set_option maxRecDepth 100000 in
theorem mlX6_220 : Cond.methodLink RX6 220 yX6_done ∈ gG := gG_of (by decide +kernel) rfl
set_option maxRecDepth 100000 in
theorem mlX6_223 : Cond.methodLink RX6 223 yX6_step ∈ gG := gG_of (by decide +kernel) rfl
set_option maxRecDepth 100000 in
theorem fwX6_226 : FW RX6 226 6 31 := ⟨by decide, by decide, Or.inl (gG_of (by decide +kernel) rfl)⟩
set_option maxRecDepth 100000 in
theorem mlX6_229 : Cond.methodLink RX6 229 yX6_tags ∈ gG := gG_of (by decide +kernel) rfl
end
section
def Gv (Y : MX) (avs : List Value) (M : Mem) (r : Option Value) (M' : Mem) : Prop := Con Y avs (shp, rfs, M) (fun r1 h1 => r1 = r ∧ h1 = (shp, rfs, M'))
def roomB (X Y : MX) (st : List Value) : Bool := Nat.ble (Y.2.2.2.2.1.1 + 1) X.2.2.2.2.1.1 && Nat.ble (8 + (Y.2.2.1 + 11) + Y.2.2.2.2.1.2) X.2.2.2.2.1.2 && Nat.beq Y.2.2.2.2.2.1 0 && Nat.beq Y.2.2.2.2.2.2 0 && Nat.ble (st.map fun v => v.category).sum 8
theorem roomB_ok {X Y : MX} {st : List Value} (h : roomB X Y st = true) : cRoom X Y 0 0 st ∧ Y.2.2.2.2.2.1 = 0 ∧ Y.2.2.2.2.2.2 = 0 := by
  simp only [roomB, Bool.and_eq_true, Nat.ble_eq, Nat.beq_eq] at h
  obtain ⟨⟨⟨⟨h1, h2⟩, h3⟩, h4⟩, h5⟩ := h
  exact ⟨⟨⟨h1, h2⟩, ⟨by omega, by omega⟩, h5⟩, h3, h4⟩
section GCALL
variable {X Y : MX} {pc : Nat} {lv : List (Option Value)} {st : List Value} {M M' : Mem} {Q : Option Value → Hp → Prop}
theorem g_callV {a ci N na idx : Nat} {as : List Value} {r : Option Value} (hd : decode X.2.1 pc = .ok (.invokevirtual idx, 3)) (hl : Cond.methodLink X.1.cls idx Y.1 ∈ gG) (hw : vOK Y na) (hs : shp[a]? = some (ci, N)) (hci : ci < 7 ∧ (clC ci).1 = Y.1.cls) (hna : as.length = na) (hroom : roomB X Y st = true) (hg : Gv Y (.ref a :: as) M r M') (kk : WP X (pc + 3) lv (r.toList ++ st) 0 0 (shp, rfs, M') Q) : WP X pc lv (as.reverse ++ .ref a :: st) 0 0 (shp, rfs, M) Q := by
  obtain ⟨h1, h2, h3⟩ := roomB_ok hroom
  refine r_callV hd hl hw hs hci hna h1 (Or.inl h2) hg (fun r' h' q => ?_)
  obtain ⟨rfl, rfl⟩ := q
  rw [h2, h3]
  exact kk
theorem g_callS {na idx : Nat} {as : List Value} {r : Option Value} (hd : decode X.2.1 pc = .ok (.invokestatic idx, 3)) (hl : Cond.methodLink X.1.cls idx Y.1 ∈ gG) (hw : cOK Y na) (hst : Cond.static Y.1 ∈ gG) (hna : as.length = na) (hroom : roomB X Y st = true) (hg : Gv Y as M r M') (kk : WP X (pc + 3) lv (r.toList ++ st) 0 0 (shp, rfs, M') Q) : WP X pc lv (as.reverse ++ st) 0 0 (shp, rfs, M) Q := by
  obtain ⟨h1, h2, h3⟩ := roomB_ok hroom
  refine r_callS hd hl hw hst hna h1 (Or.inl h2) hg (fun r' h' q => ?_)
  obtain ⟨rfl, rfl⟩ := q
  rw [h2, h3]
  exact kk
theorem gV0 {a ci N idx : Nat} {v : Value} (hd : decode X.2.1 pc = .ok (.invokevirtual idx, 3)) (hl : Cond.methodLink X.1.cls idx Y.1 ∈ gG) (hw : vOK Y 0) (hs : shp[a]? = some (ci, N)) (hci : ci < 7 ∧ (clC ci).1 = Y.1.cls) (hroom : roomB X Y st = true) (hg : Gv Y [.ref a] M (some v) M') (kk : WP X (pc + 3) lv (v :: st) 0 0 (shp, rfs, M') Q) : WP X pc lv (.ref a :: st) 0 0 (shp, rfs, M) Q := g_callV (as := []) hd hl hw hs hci rfl hroom hg kk
theorem gW0 {a ci N idx : Nat}  (hd : decode X.2.1 pc = .ok (.invokevirtual idx, 3)) (hl : Cond.methodLink X.1.cls idx Y.1 ∈ gG) (hw : vOK Y 0) (hs : shp[a]? = some (ci, N)) (hci : ci < 7 ∧ (clC ci).1 = Y.1.cls) (hroom : roomB X Y st = true) (hg : Gv Y [.ref a] M none M') (kk : WP X (pc + 3) lv st 0 0 (shp, rfs, M') Q) : WP X pc lv (.ref a :: st) 0 0 (shp, rfs, M) Q := g_callV (as := []) hd hl hw hs hci rfl hroom hg kk
theorem gV1 {a ci N idx : Nat} {v1 : Value} {v : Value} (hd : decode X.2.1 pc = .ok (.invokevirtual idx, 3)) (hl : Cond.methodLink X.1.cls idx Y.1 ∈ gG) (hw : vOK Y 1) (hs : shp[a]? = some (ci, N)) (hci : ci < 7 ∧ (clC ci).1 = Y.1.cls) (hroom : roomB X Y st = true) (hg : Gv Y [.ref a, v1] M (some v) M') (kk : WP X (pc + 3) lv (v :: st) 0 0 (shp, rfs, M') Q) : WP X pc lv (v1 :: .ref a :: st) 0 0 (shp, rfs, M) Q := g_callV (as := [v1]) hd hl hw hs hci rfl hroom hg kk
theorem gW1 {a ci N idx : Nat} {v1 : Value}  (hd : decode X.2.1 pc = .ok (.invokevirtual idx, 3)) (hl : Cond.methodLink X.1.cls idx Y.1 ∈ gG) (hw : vOK Y 1) (hs : shp[a]? = some (ci, N)) (hci : ci < 7 ∧ (clC ci).1 = Y.1.cls) (hroom : roomB X Y st = true) (hg : Gv Y [.ref a, v1] M none M') (kk : WP X (pc + 3) lv st 0 0 (shp, rfs, M') Q) : WP X pc lv (v1 :: .ref a :: st) 0 0 (shp, rfs, M) Q := g_callV (as := [v1]) hd hl hw hs hci rfl hroom hg kk
theorem gS1 {idx : Nat} {v1 : Value} {v : Value} (hd : decode X.2.1 pc = .ok (.invokestatic idx, 3)) (hl : Cond.methodLink X.1.cls idx Y.1 ∈ gG) (hw : cOK Y 1) (hst : Cond.static Y.1 ∈ gG) (hroom : roomB X Y st = true) (hg : Gv Y [v1] M (some v) M') (kk : WP X (pc + 3) lv (v :: st) 0 0 (shp, rfs, M') Q) : WP X pc lv (v1 :: st) 0 0 (shp, rfs, M) Q := g_callS (as := [v1]) hd hl hw hst rfl hroom hg kk
theorem gV2 {a ci N idx : Nat} {v1 v2 : Value} {v : Value} (hd : decode X.2.1 pc = .ok (.invokevirtual idx, 3)) (hl : Cond.methodLink X.1.cls idx Y.1 ∈ gG) (hw : vOK Y 2) (hs : shp[a]? = some (ci, N)) (hci : ci < 7 ∧ (clC ci).1 = Y.1.cls) (hroom : roomB X Y st = true) (hg : Gv Y [.ref a, v1, v2] M (some v) M') (kk : WP X (pc + 3) lv (v :: st) 0 0 (shp, rfs, M') Q) : WP X pc lv (v2 :: v1 :: .ref a :: st) 0 0 (shp, rfs, M) Q := g_callV (as := [v1, v2]) hd hl hw hs hci rfl hroom hg kk
theorem gW2 {a ci N idx : Nat} {v1 v2 : Value}  (hd : decode X.2.1 pc = .ok (.invokevirtual idx, 3)) (hl : Cond.methodLink X.1.cls idx Y.1 ∈ gG) (hw : vOK Y 2) (hs : shp[a]? = some (ci, N)) (hci : ci < 7 ∧ (clC ci).1 = Y.1.cls) (hroom : roomB X Y st = true) (hg : Gv Y [.ref a, v1, v2] M none M') (kk : WP X (pc + 3) lv st 0 0 (shp, rfs, M') Q) : WP X pc lv (v2 :: v1 :: .ref a :: st) 0 0 (shp, rfs, M) Q := g_callV (as := [v1, v2]) hd hl hw hs hci rfl hroom hg kk
theorem gS2 {idx : Nat} {v1 v2 : Value} {v : Value} (hd : decode X.2.1 pc = .ok (.invokestatic idx, 3)) (hl : Cond.methodLink X.1.cls idx Y.1 ∈ gG) (hw : cOK Y 2) (hst : Cond.static Y.1 ∈ gG) (hroom : roomB X Y st = true) (hg : Gv Y [v1, v2] M (some v) M') (kk : WP X (pc + 3) lv (v :: st) 0 0 (shp, rfs, M') Q) : WP X pc lv (v2 :: v1 :: st) 0 0 (shp, rfs, M) Q := g_callS (as := [v1, v2]) hd hl hw hst rfl hroom hg kk
theorem gV3 {a ci N idx : Nat} {v1 v2 v3 : Value} {v : Value} (hd : decode X.2.1 pc = .ok (.invokevirtual idx, 3)) (hl : Cond.methodLink X.1.cls idx Y.1 ∈ gG) (hw : vOK Y 3) (hs : shp[a]? = some (ci, N)) (hci : ci < 7 ∧ (clC ci).1 = Y.1.cls) (hroom : roomB X Y st = true) (hg : Gv Y [.ref a, v1, v2, v3] M (some v) M') (kk : WP X (pc + 3) lv (v :: st) 0 0 (shp, rfs, M') Q) : WP X pc lv (v3 :: v2 :: v1 :: .ref a :: st) 0 0 (shp, rfs, M) Q := g_callV (as := [v1, v2, v3]) hd hl hw hs hci rfl hroom hg kk
theorem gW3 {a ci N idx : Nat} {v1 v2 v3 : Value}  (hd : decode X.2.1 pc = .ok (.invokevirtual idx, 3)) (hl : Cond.methodLink X.1.cls idx Y.1 ∈ gG) (hw : vOK Y 3) (hs : shp[a]? = some (ci, N)) (hci : ci < 7 ∧ (clC ci).1 = Y.1.cls) (hroom : roomB X Y st = true) (hg : Gv Y [.ref a, v1, v2, v3] M none M') (kk : WP X (pc + 3) lv st 0 0 (shp, rfs, M') Q) : WP X pc lv (v3 :: v2 :: v1 :: .ref a :: st) 0 0 (shp, rfs, M) Q := g_callV (as := [v1, v2, v3]) hd hl hw hs hci rfl hroom hg kk
theorem gS3 {idx : Nat} {v1 v2 v3 : Value} {v : Value} (hd : decode X.2.1 pc = .ok (.invokestatic idx, 3)) (hl : Cond.methodLink X.1.cls idx Y.1 ∈ gG) (hw : cOK Y 3) (hst : Cond.static Y.1 ∈ gG) (hroom : roomB X Y st = true) (hg : Gv Y [v1, v2, v3] M (some v) M') (kk : WP X (pc + 3) lv (v :: st) 0 0 (shp, rfs, M') Q) : WP X pc lv (v3 :: v2 :: v1 :: st) 0 0 (shp, rfs, M) Q := g_callS (as := [v1, v2, v3]) hd hl hw hst rfl hroom hg kk
theorem gV4 {a ci N idx : Nat} {v1 v2 v3 v4 : Value} {v : Value} (hd : decode X.2.1 pc = .ok (.invokevirtual idx, 3)) (hl : Cond.methodLink X.1.cls idx Y.1 ∈ gG) (hw : vOK Y 4) (hs : shp[a]? = some (ci, N)) (hci : ci < 7 ∧ (clC ci).1 = Y.1.cls) (hroom : roomB X Y st = true) (hg : Gv Y [.ref a, v1, v2, v3, v4] M (some v) M') (kk : WP X (pc + 3) lv (v :: st) 0 0 (shp, rfs, M') Q) : WP X pc lv (v4 :: v3 :: v2 :: v1 :: .ref a :: st) 0 0 (shp, rfs, M) Q := g_callV (as := [v1, v2, v3, v4]) hd hl hw hs hci rfl hroom hg kk
theorem gW4 {a ci N idx : Nat} {v1 v2 v3 v4 : Value}  (hd : decode X.2.1 pc = .ok (.invokevirtual idx, 3)) (hl : Cond.methodLink X.1.cls idx Y.1 ∈ gG) (hw : vOK Y 4) (hs : shp[a]? = some (ci, N)) (hci : ci < 7 ∧ (clC ci).1 = Y.1.cls) (hroom : roomB X Y st = true) (hg : Gv Y [.ref a, v1, v2, v3, v4] M none M') (kk : WP X (pc + 3) lv st 0 0 (shp, rfs, M') Q) : WP X pc lv (v4 :: v3 :: v2 :: v1 :: .ref a :: st) 0 0 (shp, rfs, M) Q := g_callV (as := [v1, v2, v3, v4]) hd hl hw hs hci rfl hroom hg kk
theorem gS4 {idx : Nat} {v1 v2 v3 v4 : Value} {v : Value} (hd : decode X.2.1 pc = .ok (.invokestatic idx, 3)) (hl : Cond.methodLink X.1.cls idx Y.1 ∈ gG) (hw : cOK Y 4) (hst : Cond.static Y.1 ∈ gG) (hroom : roomB X Y st = true) (hg : Gv Y [v1, v2, v3, v4] M (some v) M') (kk : WP X (pc + 3) lv (v :: st) 0 0 (shp, rfs, M') Q) : WP X pc lv (v4 :: v3 :: v2 :: v1 :: st) 0 0 (shp, rfs, M) Q := g_callS (as := [v1, v2, v3, v4]) hd hl hw hst rfl hroom hg kk
theorem gV5 {a ci N idx : Nat} {v1 v2 v3 v4 v5 : Value} {v : Value} (hd : decode X.2.1 pc = .ok (.invokevirtual idx, 3)) (hl : Cond.methodLink X.1.cls idx Y.1 ∈ gG) (hw : vOK Y 5) (hs : shp[a]? = some (ci, N)) (hci : ci < 7 ∧ (clC ci).1 = Y.1.cls) (hroom : roomB X Y st = true) (hg : Gv Y [.ref a, v1, v2, v3, v4, v5] M (some v) M') (kk : WP X (pc + 3) lv (v :: st) 0 0 (shp, rfs, M') Q) : WP X pc lv (v5 :: v4 :: v3 :: v2 :: v1 :: .ref a :: st) 0 0 (shp, rfs, M) Q := g_callV (as := [v1, v2, v3, v4, v5]) hd hl hw hs hci rfl hroom hg kk
theorem gW5 {a ci N idx : Nat} {v1 v2 v3 v4 v5 : Value}  (hd : decode X.2.1 pc = .ok (.invokevirtual idx, 3)) (hl : Cond.methodLink X.1.cls idx Y.1 ∈ gG) (hw : vOK Y 5) (hs : shp[a]? = some (ci, N)) (hci : ci < 7 ∧ (clC ci).1 = Y.1.cls) (hroom : roomB X Y st = true) (hg : Gv Y [.ref a, v1, v2, v3, v4, v5] M none M') (kk : WP X (pc + 3) lv st 0 0 (shp, rfs, M') Q) : WP X pc lv (v5 :: v4 :: v3 :: v2 :: v1 :: .ref a :: st) 0 0 (shp, rfs, M) Q := g_callV (as := [v1, v2, v3, v4, v5]) hd hl hw hs hci rfl hroom hg kk
theorem gV6 {a ci N idx : Nat} {v1 v2 v3 v4 v5 v6 : Value} {v : Value} (hd : decode X.2.1 pc = .ok (.invokevirtual idx, 3)) (hl : Cond.methodLink X.1.cls idx Y.1 ∈ gG) (hw : vOK Y 6) (hs : shp[a]? = some (ci, N)) (hci : ci < 7 ∧ (clC ci).1 = Y.1.cls) (hroom : roomB X Y st = true) (hg : Gv Y [.ref a, v1, v2, v3, v4, v5, v6] M (some v) M') (kk : WP X (pc + 3) lv (v :: st) 0 0 (shp, rfs, M') Q) : WP X pc lv (v6 :: v5 :: v4 :: v3 :: v2 :: v1 :: .ref a :: st) 0 0 (shp, rfs, M) Q := g_callV (as := [v1, v2, v3, v4, v5, v6]) hd hl hw hs hci rfl hroom hg kk
theorem gW6 {a ci N idx : Nat} {v1 v2 v3 v4 v5 v6 : Value}  (hd : decode X.2.1 pc = .ok (.invokevirtual idx, 3)) (hl : Cond.methodLink X.1.cls idx Y.1 ∈ gG) (hw : vOK Y 6) (hs : shp[a]? = some (ci, N)) (hci : ci < 7 ∧ (clC ci).1 = Y.1.cls) (hroom : roomB X Y st = true) (hg : Gv Y [.ref a, v1, v2, v3, v4, v5, v6] M none M') (kk : WP X (pc + 3) lv st 0 0 (shp, rfs, M') Q) : WP X pc lv (v6 :: v5 :: v4 :: v3 :: v2 :: v1 :: .ref a :: st) 0 0 (shp, rfs, M) Q := g_callV (as := [v1, v2, v3, v4, v5, v6]) hd hl hw hs hci rfl hroom hg kk
theorem gV7 {a ci N idx : Nat} {v1 v2 v3 v4 v5 v6 v7 : Value} {v : Value} (hd : decode X.2.1 pc = .ok (.invokevirtual idx, 3)) (hl : Cond.methodLink X.1.cls idx Y.1 ∈ gG) (hw : vOK Y 7) (hs : shp[a]? = some (ci, N)) (hci : ci < 7 ∧ (clC ci).1 = Y.1.cls) (hroom : roomB X Y st = true) (hg : Gv Y [.ref a, v1, v2, v3, v4, v5, v6, v7] M (some v) M') (kk : WP X (pc + 3) lv (v :: st) 0 0 (shp, rfs, M') Q) : WP X pc lv (v7 :: v6 :: v5 :: v4 :: v3 :: v2 :: v1 :: .ref a :: st) 0 0 (shp, rfs, M) Q := g_callV (as := [v1, v2, v3, v4, v5, v6, v7]) hd hl hw hs hci rfl hroom hg kk
theorem gW7 {a ci N idx : Nat} {v1 v2 v3 v4 v5 v6 v7 : Value}  (hd : decode X.2.1 pc = .ok (.invokevirtual idx, 3)) (hl : Cond.methodLink X.1.cls idx Y.1 ∈ gG) (hw : vOK Y 7) (hs : shp[a]? = some (ci, N)) (hci : ci < 7 ∧ (clC ci).1 = Y.1.cls) (hroom : roomB X Y st = true) (hg : Gv Y [.ref a, v1, v2, v3, v4, v5, v6, v7] M none M') (kk : WP X (pc + 3) lv st 0 0 (shp, rfs, M') Q) : WP X pc lv (v7 :: v6 :: v5 :: v4 :: v3 :: v2 :: v1 :: .ref a :: st) 0 0 (shp, rfs, M) Q := g_callV (as := [v1, v2, v3, v4, v5, v6, v7]) hd hl hw hs hci rfl hroom hg kk
theorem gV8 {a ci N idx : Nat} {v1 v2 v3 v4 v5 v6 v7 v8 : Value} {v : Value} (hd : decode X.2.1 pc = .ok (.invokevirtual idx, 3)) (hl : Cond.methodLink X.1.cls idx Y.1 ∈ gG) (hw : vOK Y 8) (hs : shp[a]? = some (ci, N)) (hci : ci < 7 ∧ (clC ci).1 = Y.1.cls) (hroom : roomB X Y st = true) (hg : Gv Y [.ref a, v1, v2, v3, v4, v5, v6, v7, v8] M (some v) M') (kk : WP X (pc + 3) lv (v :: st) 0 0 (shp, rfs, M') Q) : WP X pc lv (v8 :: v7 :: v6 :: v5 :: v4 :: v3 :: v2 :: v1 :: .ref a :: st) 0 0 (shp, rfs, M) Q := g_callV (as := [v1, v2, v3, v4, v5, v6, v7, v8]) hd hl hw hs hci rfl hroom hg kk
theorem gW8 {a ci N idx : Nat} {v1 v2 v3 v4 v5 v6 v7 v8 : Value}  (hd : decode X.2.1 pc = .ok (.invokevirtual idx, 3)) (hl : Cond.methodLink X.1.cls idx Y.1 ∈ gG) (hw : vOK Y 8) (hs : shp[a]? = some (ci, N)) (hci : ci < 7 ∧ (clC ci).1 = Y.1.cls) (hroom : roomB X Y st = true) (hg : Gv Y [.ref a, v1, v2, v3, v4, v5, v6, v7, v8] M none M') (kk : WP X (pc + 3) lv st 0 0 (shp, rfs, M') Q) : WP X pc lv (v8 :: v7 :: v6 :: v5 :: v4 :: v3 :: v2 :: v1 :: .ref a :: st) 0 0 (shp, rfs, M) Q := g_callV (as := [v1, v2, v3, v4, v5, v6, v7, v8]) hd hl hw hs hci rfl hroom hg kk
end GCALL
end
section
def bt (x : Int32) (i : Nat) : Bool := x.toBitVec.getLsbD i
theorem b_ext {x y : Int32} (h : ∀ i, i < 32 → bt x i = bt y i) : x = y := Int32.toBitVec_inj.mp (BitVec.eq_of_getLsbD_eq (fun i hi => h i hi))
theorem b_or (x y : Int32) (i : Nat) : bt (x ||| y) i = (bt x i || bt y i) := by unfold bt; rw [Int32.toBitVec_or, BitVec.getLsbD_or]
theorem b_and (x y : Int32) (i : Nat) : bt (x &&& y) i = (bt x i && bt y i) := by unfold bt; rw [Int32.toBitVec_and, BitVec.getLsbD_and]
theorem b_xor (x y : Int32) (i : Nat) : bt (x ^^^ y) i = (bt x i ^^ bt y i) := by unfold bt; rw [Int32.toBitVec_xor, BitVec.getLsbD_xor]
theorem b_big {x : Int32} {i : Nat} (h : 32 ≤ i) : bt x i = false := BitVec.getLsbD_of_ge _ _ h
theorem b_255 (i : Nat) : bt 255 i = decide (i < 8) := by
  rcases Nat.lt_or_ge i 32 with h | h
  · exact (by decide +kernel : ∀ i, i < 32 → bt 255 i = decide (i < 8)) i h
  · rw [b_big h, decide_eq_false (by omega)]
theorem b_65535 (i : Nat) : bt 65535 i = decide (i < 16) := by
  rcases Nat.lt_or_ge i 32 with h | h
  · exact (by decide +kernel : ∀ i, i < 32 → bt 65535 i = decide (i < 16)) i h
  · rw [b_big h, decide_eq_false (by omega)]
theorem b_m1 : ∀ i, i < 32 → bt (-1) i = true := by decide +kernel
theorem b_0 (i : Nat) : bt 0 i = false := BitVec.getLsbD_zero
theorem s_l : ∀ n, n < 32 → ((nI n &&& 31).toBitVec.smod 32).toNat = n := by decide +kernel
theorem s_u : ∀ n, n < 32 → (((nI n).toUInt32 &&& Int32.toUInt32 31).toBitVec % 32).toNat = n := by decide +kernel
theorem b_shl (n : Nat) (hn : n < 32) (x : Int32) {i : Nat} (hi : i < 32) : bt (x <<< (nI n &&& 31)) i = (decide (n ≤ i) && bt x (i - n)) := by
  unfold bt
  rw [Int32.toBitVec_shiftLeft]
  show (x.toBitVec <<< ((nI n &&& 31).toBitVec.smod 32).toNat).getLsbD i = _
  rw [s_l n hn, BitVec.getLsbD_shiftLeft]
  rcases Nat.lt_or_ge i n with h | h
  · simp [h, Nat.not_le.mpr h]
  · simp [hi, h, Nat.not_lt.mpr h]
theorem b_ushr (n : Nat) (hn : n < 32) (x : Int32) (i : Nat) : bt ((x.toUInt32 >>> ((nI n).toUInt32 &&& Int32.toUInt32 31)).toInt32) i = bt x (n + i) := by
  show (x.toUInt32 >>> ((nI n).toUInt32 &&& Int32.toUInt32 31)).toBitVec.getLsbD i = x.toUInt32.toBitVec.getLsbD (n + i)
  rw [UInt32.toBitVec_shiftRight]
  show (x.toUInt32.toBitVec >>> (((nI n).toUInt32 &&& Int32.toUInt32 31).toBitVec % 32).toNat).getLsbD i = _
  rw [s_u n hn, BitVec.getLsbD_ushiftRight]
theorem b_sshr (n : Nat) (hn : n < 32) (x : Int32) {i : Nat} (hi : i < 32) : bt (x >>> (nI n &&& 31)) i = if n + i < 32 then bt x (n + i) else bt x 31 := by
  unfold bt
  rw [Int32.toBitVec_shiftRight]
  show (x.toBitVec.sshiftRight ((nI n &&& 31).toBitVec.smod 32).toNat).getLsbD i = _
  rw [s_l n hn, BitVec.getLsbD_sshiftRight, BitVec.msb_eq_getLsbD_last]
  simp [hi]
theorem b_shl8 (x : Int32) {i : Nat} (hi : i < 32) : bt (x <<< ((8 : Int32) &&& 31)) i = (decide (8 ≤ i) && bt x (i - 8)) := b_shl 8 (by omega) x hi
theorem b_shl16 (x : Int32) {i : Nat} (hi : i < 32) : bt (x <<< ((16 : Int32) &&& 31)) i = (decide (16 ≤ i) && bt x (i - 16)) := b_shl 16 (by omega) x hi
theorem b_shl24 (x : Int32) {i : Nat} (hi : i < 32) : bt (x <<< ((24 : Int32) &&& 31)) i = (decide (24 ≤ i) && bt x (i - 24)) := b_shl 24 (by omega) x hi
theorem b_sshr8 (x : Int32) {i : Nat} (hi : i < 32) : bt (x >>> ((8 : Int32) &&& 31)) i = if 8 + i < 32 then bt x (8 + i) else bt x 31 := b_sshr 8 (by omega) x hi
/-! ===== nI under and, xor, >>>, one bit, 65535 ===== -/
theorem nx_and (a b : Nat) : nI a &&& nI b = nI (a &&& b) := by
  apply Int32.toBitVec_inj.1
  show BitVec.ofNat 32 a &&& BitVec.ofNat 32 b = BitVec.ofNat 32 (a &&& b)
  apply BitVec.eq_of_getLsbD_eq
  intro i hi
  simp [hi]
theorem nx_xor (a b : Nat) : nI a ^^^ nI b = nI (a ^^^ b) := by
  apply Int32.toBitVec_inj.1
  show BitVec.ofNat 32 a ^^^ BitVec.ofNat 32 b = BitVec.ofNat 32 (a ^^^ b)
  apply BitVec.eq_of_getLsbD_eq
  intro i hi
  simp [hi]

theorem vp_lt {x : Int32} {n : Nat} : vp_in x n → x.toNatClampNeg < n := fun h => Nat.not_le.mp fun q => h (Or.inr q)
theorem i_lt (a b : Int32) : a < b ↔ a.toInt < b.toInt := Int32.lt_iff_toInt_lt
theorem i_le (a b : Int32) : a ≤ b ↔ a.toInt ≤ b.toInt := Int32.le_iff_toInt_le
theorem i_eq (a b : Int32) : a = b ↔ a.toInt = b.toInt := ⟨fun h => h ▸ rfl, fun h => Int32.toInt_inj.mp h⟩
theorem i_0 : (0 : Int32).toInt = 0 := rfl
/-- an index between 0 and a length -/
theorem ix_of {x y : Int32} {n N : Nat} (h0 : ¬ x < 0) (h1 : ¬ y ≤ x) (hy : y = nI n) (hn : n ≤ N) (hN : N < 2 ^ 31) : ∃ j, j < n ∧ x = nI j ∧ vp_in x N := by
  subst hy
  rw [i_lt, i_0] at h0
  rw [i_le, nI_toInt (by omega)] at h1
  obtain ⟨j, hj, rfl⟩ := nI_of (x := x) (by rw [i_lt, i_0]; exact h0)
  rw [nI_toInt hj] at h1
  exact ⟨j, by omega, rfl, vp_in_nI (by omega) hN⟩
def us (x y : Int32) : Int32 := (x.toUInt32 >>> (y.toUInt32 &&& Int32.toUInt32 31)).toInt32
theorem nI_lit1 : (1 : Int32) = nI 1 := rfl
theorem bt_1 (i : Nat) : bt 1 i = decide (i = 0) := by
  rcases Nat.lt_or_ge i 32 with h | h
  · exact (by decide +kernel : ∀ i, i < 32 → bt 1 i = decide (i = 0)) i h
  · rw [b_big h, decide_eq_false (by omega)]
/-- the low bit behind either shift -/
theorem sh_and1 (b : Int32) {i : Nat} (hi : i < 32) : (b >>> (nI i &&& 31)) &&& 1 = us b (nI i) &&& 1 := by
  apply b_ext
  intro q hq
  rw [b_and, b_and, bt_1, b_sshr i hi b hq]
  unfold us
  rw [b_ushr i hi]
  by_cases h : q = 0
  · subst h
    simp [hi]
  · simp [h]
def crcStep (c t : Int32) : Int32 := if us c 31 ^^^ t = 1 then (c <<< ((1 : Int32) &&& 31)) ^^^ 79764919 else c <<< ((1 : Int32) &&& 31)
def crcBits (b : Int32) : Nat → Int32 → Int32
  | 0, c => c
  | m + 1, c => crcBits b m (crcStep c (us b (nI m) &&& 1))
def crcByte (c b : Int32) : Int32 := crcBits b 8 c
def crcN (f : Nat → Int32) : Nat → Int32
  | 0 => 1378996274
  | n + 1 => crcByte (crcN f n) (f n)
theorem crcN_congr {f g : Nat → Int32} : ∀ n, (∀ j, j < n → f j = g j) → crcN f n = crcN g n
  | 0, _ => rfl
  | n + 1, h => by simp only [crcN]; rw [crcN_congr n (fun j q => h j (by omega)), h n (by omega)]
theorem m1_lt : nI 0 + (-1) < 0 := by decide
theorem m1_nI (m : Nat) : nI (m + 1) + (-1) = nI m := pk_m1 m
theorem nI_nneg {m : Nat} (h : m < 2 ^ 31) : ¬ nI m < 0 := nI_pos h
def okB (x : Int32) : Prop := x &&& 255 = x
theorem okB_and (x : Int32) : okB (x &&& 255) := by
  apply b_ext
  intro i _
  simp [b_and]
theorem okB_nI {k : Nat} (h : k < 256) : okB (nI k) := by
  show nI k &&& nI 255 = nI k
  have := pk_andN (n := k) (by omega) (m := 255) 8 (by decide)
  rw [show (255 : Int32) = nI 255 from rfl] at this
  rw [this, Nat.mod_eq_of_lt (by omega)]
theorem okB_of {x : Int32} (h : okB x) : ∃ k, k < 256 ∧ x = nI k := by
  obtain ⟨j, hj, he⟩ := pk_andE x (m := 255) 8 (by decide)
  exact ⟨j, by omega, by rw [← he, h]⟩
/-- all but some cells stay -/
def Fr (ex : List Nat) (M M' : Mem) : Prop := ∀ a, a ∉ ex → M' a = M a
theorem Fr.rf {ex : List Nat} {M : Mem} : Fr ex M M := fun _ _ => rfl
theorem Fr.tr {ex ex' ex'' : List Nat} {M M' M'' : Mem} (h1 : Fr ex M M') (h2 : Fr ex' M' M'') (i1 : ∀ a ∈ ex, a ∈ ex'') (i2 : ∀ a ∈ ex', a ∈ ex'') : Fr ex'' M M'' := fun a ha => (h2 a (fun q => ha (i2 a q))).trans (h1 a (fun q => ha (i1 a q)))
theorem Fr.up {ex : List Nat} {M M' : Mem} {a k : Nat} {x : Int32} (h : Fr ex M M') (ha : a ∈ ex) : Fr ex M (upd2 M' a k x) := fun b hb => by
  have hne : b ≠ a := fun q => hb (by rw [q]; exact ha)
  rw [upd2_n hne]
  exact h b hb
theorem upd_s {f : Nat → Int32} {k : Nat} {x : Int32} : upd f k x k = x := by simp [upd]
theorem upd_n {f : Nat → Int32} {k j : Nat} {x : Int32} (h : j ≠ k) : upd f k x j = f j := by simp [upd, h]
theorem u_ss {M : Mem} {a k : Nat} {x : Int32} : upd2 M a k x a k = x := by rw [upd2_s, upd_s]
theorem u_sn {M : Mem} {a k j : Nat} {x : Int32} (h : j ≠ k) : upd2 M a k x a j = M a j := by rw [upd2_s, upd_n h]
theorem u_nn {M : Mem} {a b k j : Nat} {x : Int32} (h : b ≠ a) : upd2 M a k x b j = M b j := by rw [upd2_n h]
/-- a Bytes object o with its row r holds n bytes f -/
def HB (M : Mem) (o r n : Nat) (f : Nat → Int32) : Prop := M o 1 = nI n ∧ n ≤ 16 ∧ ∀ j, j < n → M r j = f j
/-- cells of a Bytes object -/
def isBy (o r : Nat) : Prop := shp[o]? = some (0, 2) ∧ rfs o 0 = some r ∧ shp[r]? = some (7, 16) ∧ o ≠ r
theorem isBy6 : isBy 6 7 := ⟨rfl, rfl, rfl, by decide⟩
theorem isBy8 : isBy 8 9 := ⟨rfl, rfl, rfl, by decide⟩
theorem isBy18 : isBy 18 19 := ⟨rfl, rfl, rfl, by decide⟩
theorem isBy20 : isBy 20 21 := ⟨rfl, rfl, rfl, by decide⟩
end
section
set_option maxHeartbeats 4000000 in
set_option maxRecDepth 100000 in
theorem b_size {o r : Nat} {M : Mem} (hB : isBy o r) : Gv mX0_size [.ref o] M (some (.int (M o 1))) M := by
  obtain ⟨hB1, hB2, hB3, hB4⟩ := hB
  refine con_of (lv := [some (.ref o)]) (by decide) rfl (Nat.le_of_ble_eq_true rfl) (by simp [lvle]) ?_
  refine r_aload_n dX0_size_0 rfl rfl ?_
  refine r_getI (N := 2) dX0_size_1 fwX0_15 (by first | rfl | assumption) (Nat.le_of_ble_eq_true rfl) rfl ?_
  refine r_ireturn dX0_size_4 rfl (Nat.zero_le _) (Nat.zero_le _) ?_
  exact ⟨rfl, rfl⟩
set_option maxHeartbeats 4000000 in
set_option maxRecDepth 100000 in
theorem b_clear {o r : Nat} {M : Mem} (hB : isBy o r) : Gv mX0_clear [.ref o] M none (upd2 M o 1 0) := by
  obtain ⟨hB1, hB2, hB3, hB4⟩ := hB
  refine con_of (lv := [some (.ref o)]) (by decide) rfl (Nat.le_of_ble_eq_true rfl) (by simp [lvle]) ?_
  refine r_aload_n dX0_clear_0 rfl rfl ?_
  refine r_iconst 0 dX0_clear_1 (by decide) ?_
  refine r_putI (N := 2) dX0_clear_2 fwX0_15 (by first | rfl | assumption) (Nat.le_of_ble_eq_true rfl) rfl (Or.inl rfl) rfl rfl ?_
  refine r_return dX0_clear_5 rfl (Nat.zero_le _) (Nat.zero_le _) ?_
  exact ⟨rfl, rfl⟩
set_option maxHeartbeats 4000000 in
set_option maxRecDepth 100000 in
theorem b_at {o r : Nat} {M : Mem} (hB : isBy o r) {n : Nat} {x : Int32} (hn : M o 1 = nI n) (hn2 : n ≤ 16) : Gv mX0_at [.ref o, .int x] M (some (.int (if x < 0 then 0 else if M o 1 ≤ x then 0 else M r x.toNatClampNeg))) M := by
  obtain ⟨hB1, hB2, hB3, hB4⟩ := hB
  refine con_of (lv := [some (.ref o), some (.int x)]) (by decide) rfl (Nat.le_of_ble_eq_true rfl) (by simp [lvle]) ?_
  refine r_iload_n dX0_at_0 rfl rfl ?_
  refine r_if_lt 21 dX0_at_1 (by decide) (fun c_1 => ?_) (fun c_1 => ?_)
  · refine r_iconst 0 dX0_at_21 (by decide) ?_
    refine r_ireturn dX0_at_22 rfl (Nat.zero_le _) (Nat.zero_le _) ?_
    refine ⟨?_, rfl⟩
    first | rw [if_pos c_1] | rw [if_neg c_1, if_pos c_9] | rw [if_neg c_1, if_neg c_9]
  · refine r_iload_n dX0_at_4 rfl rfl ?_
    refine r_aload_n dX0_at_5 rfl rfl ?_
    refine r_getI (N := 2) dX0_at_6 fwX0_15 (by first | rfl | assumption) (Nat.le_of_ble_eq_true rfl) rfl ?_
    refine r_icmp_ge 21 dX0_at_9 (by decide) (fun c_9 => ?_) (fun c_9 => ?_)
    · refine r_iconst 0 dX0_at_21 (by decide) ?_
      refine r_ireturn dX0_at_22 rfl (Nat.zero_le _) (Nat.zero_le _) ?_
      refine ⟨?_, rfl⟩
      first | rw [if_pos c_1] | rw [if_neg c_1, if_pos c_9] | rw [if_neg c_1, if_neg c_9]
    · refine r_aload_n dX0_at_12 rfl rfl ?_
      refine r_getR (N := 2) dX0_at_13 fwX0_9 (by first | rfl | assumption) (Nat.le_of_ble_eq_true rfl) rfl (by first | rfl | assumption) ?_
      refine r_iload_n dX0_at_16 rfl rfl ?_
      refine r_iaload dX0_at_17 (by first | rfl | assumption) (by obtain ⟨j, _, _, h⟩ := ix_of c_1 c_9 hn hn2 (by decide); exact h) ?_
      refine r_goto 22 dX0_at_18 (by decide) ?_
      refine r_ireturn dX0_at_22 rfl (Nat.zero_le _) (Nat.zero_le _) ?_
      refine ⟨?_, rfl⟩
      first | rw [if_pos c_1] | rw [if_neg c_1, if_pos c_9] | rw [if_neg c_1, if_neg c_9]
set_option maxHeartbeats 4000000 in
set_option maxRecDepth 100000 in
theorem b_add {o r : Nat} {M : Mem} (hB : isBy o r) {n : Nat} {x : Int32} (hn : M o 1 = nI n) (hn2 : n < 16) : Gv mX0_add [.ref o, .int x] M none (upd2 (upd2 M r n (x &&& 255)) o 1 (nI (n + 1))) := by
  obtain ⟨hB1, hB2, hB3, hB4⟩ := hB
  have hcl : (M o 1).toNatClampNeg = n := by rw [hn]; exact nI_clamp (by omega)
  refine con_of (lv := [some (.ref o), some (.int x)]) (by decide) rfl (Nat.le_of_ble_eq_true rfl) (by simp [lvle]) ?_
  refine r_aload_n dX0_add_0 rfl rfl ?_
  refine r_getI (N := 2) dX0_add_1 fwX0_15 (by first | rfl | assumption) (Nat.le_of_ble_eq_true rfl) rfl ?_
  refine r_aload_n dX0_add_4 rfl rfl ?_
  refine r_getR (N := 2) dX0_add_5 fwX0_9 (by first | rfl | assumption) (Nat.le_of_ble_eq_true rfl) rfl (by first | rfl | assumption) ?_
  refine r_alen dX0_add_8 (by first | rfl | assumption) (by first | exact Or.inl rfl | exact Or.inr rfl) ?_
  refine r_icmp_ge 36 dX0_add_9 (by decide) (fun c_9 => absurd c_9 (by rw [hn, nI_leI (by decide) (by omega)]; omega)) (fun c_9 => ?_)
  refine r_aload_n dX0_add_12 rfl rfl ?_
  refine r_getR (N := 2) dX0_add_13 fwX0_9 (by first | rfl | assumption) (Nat.le_of_ble_eq_true rfl) rfl (by first | rfl | assumption) ?_
  refine r_aload_n dX0_add_16 rfl rfl ?_
  refine r_getI (N := 2) dX0_add_17 fwX0_15 (by first | rfl | assumption) (Nat.le_of_ble_eq_true rfl) rfl ?_
  refine r_iload_n dX0_add_20 rfl rfl ?_
  refine r_sipush 255 dX0_add_21 (by decide) ?_
  refine r_iand dX0_add_24 ?_
  refine r_iastore dX0_add_25 (by first | rfl | assumption) (by rw [hn]; exact vp_in_nI hn2 (by decide)) ?_
  refine r_aload_n dX0_add_26 rfl rfl ?_
  first | refine r_dupR dX0_add_27 ?_ | refine r_dupI dX0_add_27 ?_
  refine r_getI (N := 2) dX0_add_28 fwX0_15 (by first | rfl | assumption) (Nat.le_of_ble_eq_true rfl) rfl ?_
  refine r_iconst 1 dX0_add_31 (by decide) ?_
  refine r_iadd dX0_add_32 ?_
  refine r_putI (N := 2) dX0_add_33 fwX0_15 (by first | rfl | assumption) (Nat.le_of_ble_eq_true rfl) rfl (Or.inl rfl) rfl rfl ?_
  refine r_return dX0_add_36 rfl (Nat.zero_le _) (Nat.zero_le _) ?_
  refine ⟨rfl, ?_⟩
  rw [hcl, u_nn hB4, hn, nI_1]
theorem b_addX {o r : Nat} {M : Mem} (hB : isBy o r) {n : Nat} {x : Int32} {g : Nat → Int32} (H : HB M o r n g) (hn : n < 16) (hg : g n = x &&& 255) : ∃ M', Gv mX0_add [.ref o, .int x] M none M' ∧ HB M' o r (n + 1) g ∧ Fr [o, r] M M' := by
  refine ⟨_, b_add hB H.1 hn, ⟨u_ss, by omega, fun j hj => ?_⟩, (Fr.rf.up (by simp)).up (by simp)⟩
  rw [u_nn (Ne.symm hB.2.2.2)]
  by_cases h : j = n
  · subst h
    rw [u_ss, hg]
  · rw [u_sn h]
    exact H.2.2 j (by omega)
theorem b_clearX {o r : Nat} {M : Mem} (hB : isBy o r) (g : Nat → Int32) : ∃ M', Gv mX0_clear [.ref o] M none M' ∧ HB M' o r 0 g ∧ Fr [o, r] M M' :=
  ⟨_, b_clear hB, ⟨u_ss, by omega, fun j hj => absurd hj (by omega)⟩, Fr.rf.up (by simp)⟩
theorem HB.gg {M : Mem} {o r n : Nat} {f g : Nat → Int32} (h : HB M o r n f) (hg : ∀ j, j < n → f j = g j) : HB M o r n g := ⟨h.1, h.2.1, fun j q => (h.2.2 j q).trans (hg j q)⟩
theorem HB.fr {M M' : Mem} {o r n : Nat} {f : Nat → Int32} {ex : List Nat} (h : HB M o r n f) (F : Fr ex M M') (ho : o ∉ ex) (hr : r ∉ ex) : HB M' o r n f := ⟨by rw [F o ho]; exact h.1, h.2.1, fun j q => by rw [F r hr]; exact h.2.2 j q⟩
/-- the four bytes of a number -/
def nby (x : Int32) (j : Nat) : Int32 := us x (nI (24 - 8 * j)) &&& 255
set_option maxHeartbeats 4000000 in
set_option maxRecDepth 100000 in
theorem b_addNumberX {o r : Nat} {M : Mem} (hB : isBy o r) {n : Nat} {x : Int32} {g : Nat → Int32} (H : HB M o r n g) (hn : n + 4 ≤ 16) (hg : ∀ q, q < 4 → g (n + q) = nby x q) : ∃ M', Gv mX0_addNumber [.ref o, .int x] M none M' ∧ HB M' o r (n + 4) g ∧ Fr [o, r] M M' := by
  obtain ⟨M1, g1, H1, F1⟩ := b_addX (x := us x 24) hB H (by omega) (hg 0 (by omega))
  obtain ⟨M2, g2, H2, F2⟩ := b_addX (x := us x (24 + (-8))) hB H1 (by omega) (by have h := hg 1 (by omega); unfold nby at h; rw [show n + 1 = n + 1 from rfl, h, show (24 + (-8) : Int32) = nI (24 - 8 * 1) by decide])
  obtain ⟨M3, g3, H3, F3⟩ := b_addX (x := us x (24 + (-8) + (-8))) hB H2 (by omega) (by have h := hg 2 (by omega); unfold nby at h; rw [show n + 2 = n + 2 from rfl, h, show (24 + (-8) + (-8) : Int32) = nI (24 - 8 * 2) by decide])
  obtain ⟨M4, g4, H4, F4⟩ := b_addX (x := us x (24 + (-8) + (-8) + (-8))) hB H3 (by omega) (by have h := hg 3 (by omega); unfold nby at h; rw [show n + 3 = n + 3 from rfl, h, show (24 + (-8) + (-8) + (-8) : Int32) = nI (24 - 8 * 3) by decide])
  refine ⟨M4, ?_, H4, F1.tr (F2.tr (F3.tr F4 (fun _ q => q) (fun _ q => q)) (fun _ q => q) (fun _ q => q)) (fun _ q => q) (fun _ q => q)⟩
  obtain ⟨hB1, hB2, hB3, hB4⟩ := id hB
  refine con_of (lv := [some (.ref o), some (.int x), none]) (by decide) rfl (Nat.le_of_ble_eq_true rfl) (by simp [lvle]) ?_
  refine r_bipush 24 dX0_addNumber_0 (by decide) ?_
  refine r_istore_n2 dX0_addNumber_2 rfl (Nat.le_of_ble_eq_true rfl) ?_
  skip
  refine r_iload_n dX0_addNumber_3 rfl rfl ?_
  refine r_if_lt 20 dX0_addNumber_4 (by decide) (fun c_4 => absurd c_4 (by decide)) (fun c_4 => ?_)
  refine r_aload_n dX0_addNumber_7 rfl rfl ?_
  refine r_iload_n dX0_addNumber_8 rfl rfl ?_
  refine r_iload_n dX0_addNumber_9 rfl rfl ?_
  refine r_iushr dX0_addNumber_10 ?_
  refine gW1 (Y := mX0_add) (ci := 0) (N := 2) dX0_addNumber_11 mlX0_19 vkX0_add (by first | rfl | assumption) ⟨by decide, rfl⟩ rfl g1 ?_
  refine r_iinc_2 (_ + (-8)) dX0_addNumber_14 rfl (Nat.le_of_ble_eq_true rfl) rfl ?_
  refine r_goto 3 dX0_addNumber_17 (by decide) ?_
  skip
  refine r_iload_n dX0_addNumber_3 rfl rfl ?_
  refine r_if_lt 20 dX0_addNumber_4 (by decide) (fun c_4 => absurd c_4 (by decide)) (fun c_4 => ?_)
  refine r_aload_n dX0_addNumber_7 rfl rfl ?_
  refine r_iload_n dX0_addNumber_8 rfl rfl ?_
  refine r_iload_n dX0_addNumber_9 rfl rfl ?_
  refine r_iushr dX0_addNumber_10 ?_
  refine gW1 (Y := mX0_add) (ci := 0) (N := 2) dX0_addNumber_11 mlX0_19 vkX0_add (by first | rfl | assumption) ⟨by decide, rfl⟩ rfl g2 ?_
  refine r_iinc_2 (_ + (-8)) dX0_addNumber_14 rfl (Nat.le_of_ble_eq_true rfl) rfl ?_
  refine r_goto 3 dX0_addNumber_17 (by decide) ?_
  skip
  refine r_iload_n dX0_addNumber_3 rfl rfl ?_
  refine r_if_lt 20 dX0_addNumber_4 (by decide) (fun c_4 => absurd c_4 (by decide)) (fun c_4 => ?_)
  refine r_aload_n dX0_addNumber_7 rfl rfl ?_
  refine r_iload_n dX0_addNumber_8 rfl rfl ?_
  refine r_iload_n dX0_addNumber_9 rfl rfl ?_
  refine r_iushr dX0_addNumber_10 ?_
  refine gW1 (Y := mX0_add) (ci := 0) (N := 2) dX0_addNumber_11 mlX0_19 vkX0_add (by first | rfl | assumption) ⟨by decide, rfl⟩ rfl g3 ?_
  refine r_iinc_2 (_ + (-8)) dX0_addNumber_14 rfl (Nat.le_of_ble_eq_true rfl) rfl ?_
  refine r_goto 3 dX0_addNumber_17 (by decide) ?_
  skip
  refine r_iload_n dX0_addNumber_3 rfl rfl ?_
  refine r_if_lt 20 dX0_addNumber_4 (by decide) (fun c_4 => absurd c_4 (by decide)) (fun c_4 => ?_)
  refine r_aload_n dX0_addNumber_7 rfl rfl ?_
  refine r_iload_n dX0_addNumber_8 rfl rfl ?_
  refine r_iload_n dX0_addNumber_9 rfl rfl ?_
  refine r_iushr dX0_addNumber_10 ?_
  refine gW1 (Y := mX0_add) (ci := 0) (N := 2) dX0_addNumber_11 mlX0_19 vkX0_add (by first | rfl | assumption) ⟨by decide, rfl⟩ rfl g4 ?_
  refine r_iinc_2 (_ + (-8)) dX0_addNumber_14 rfl (Nat.le_of_ble_eq_true rfl) rfl ?_
  refine r_goto 3 dX0_addNumber_17 (by decide) ?_
  skip
  refine r_iload_n dX0_addNumber_3 rfl rfl ?_
  refine r_if_lt 20 dX0_addNumber_4 (by decide) (fun c_4 => ?_) (fun c_4 => absurd (by decide) c_4)
  refine r_return dX0_addNumber_20 rfl (Nat.zero_le _) (Nat.zero_le _) ?_
  exact ⟨rfl, rfl⟩
set_option maxHeartbeats 4000000 in
set_option maxRecDepth 100000 in
theorem b_crc_in {o r : Nat} {M : Mem} (hB : isBy o r) {mn : Int32} {j : Nat} (hj : j < 16) {Q : Option Value → Hp → Prop} : ∀ (m : Nat) (c : Int32), m ≤ 8 → WP mX0_checksum 66 [some (.ref o), some (.int mn), some (.int (crcBits (M r j) m c)), some (.int (nI j)), none, none] [] 0 0 (shp, rfs, M) Q → WP mX0_checksum 22 [some (.ref o), some (.int mn), some (.int c), some (.int (nI j)), some (.int (nI m + (-1))), none] [] 0 0 (shp, rfs, M) Q := by
  obtain ⟨hB1, hB2, hB3, hB4⟩ := hB
  have hcl : (nI j).toNatClampNeg = j := nI_clamp (by omega)
  intro m
  induction m with
  | zero =>
    intro c _ hk
    refine r_iload dX0_checksum_22 rfl ?_
    refine r_if_lt 66 dX0_checksum_24 (by decide) (fun c_24 => ?_) (fun c_24 => absurd m1_lt c_24)
    exact r_weak (by simp [lvle] <;> (repeat' apply And.intro) <;> first | rfl | decide) hk
  | succ m ih =>
    intro c hm hk
    rw [m1_nI]
    refine r_iload dX0_checksum_22 rfl ?_
    refine r_if_lt 66 dX0_checksum_24 (by decide) (fun c_24 => absurd c_24 (nI_nneg (by omega))) (fun c_24 => ?_)
    refine r_iload_n dX0_checksum_27 rfl rfl ?_
    refine r_bipush 31 dX0_checksum_28 (by decide) ?_
    refine r_iushr dX0_checksum_30 ?_
    refine r_aload_n dX0_checksum_31 rfl rfl ?_
    refine r_getR (N := 2) dX0_checksum_32 fwX0_9 (by first | rfl | assumption) (Nat.le_of_ble_eq_true rfl) rfl (by first | rfl | assumption) ?_
    refine r_iload_n dX0_checksum_35 rfl rfl ?_
    refine r_iaload dX0_checksum_36 (by first | rfl | assumption) (by exact vp_in_nI hj (by decide)) ?_
    refine r_iload dX0_checksum_37 rfl ?_
    refine r_iushr dX0_checksum_39 ?_
    refine r_iconst 1 dX0_checksum_40 (by decide) ?_
    refine r_iand dX0_checksum_41 ?_
    refine r_ixor dX0_checksum_42 ?_
    refine r_istore_5 dX0_checksum_43 rfl (Nat.le_of_ble_eq_true rfl) ?_
    refine r_iload_n dX0_checksum_45 rfl rfl ?_
    refine r_iconst 1 dX0_checksum_46 (by decide) ?_
    refine r_ishl dX0_checksum_47 ?_
    refine r_istore_n2 dX0_checksum_48 rfl (Nat.le_of_ble_eq_true rfl) ?_
    refine r_iload dX0_checksum_49 rfl ?_
    refine r_iconst 1 dX0_checksum_51 (by decide) ?_
    refine r_icmp_ne 60 dX0_checksum_52 (by decide) (fun c_52 => ?_) (fun c_52 => ?_)
    · refine r_iinc_4 (_ + (-1)) dX0_checksum_60 rfl (Nat.le_of_ble_eq_true rfl) rfl ?_
      refine r_goto 22 dX0_checksum_63 (by decide) ?_
      rw [hcl] at c_52
      refine r_weak (by simp [lvle] <;> (repeat' apply And.intro) <;> first | rfl | decide) (ih _ (by omega) ?_)
      have hs := (show crcStep c (us (M r j) (nI m) &&& 1) = _ by first | exact if_pos c_52 | exact if_neg c_52)
      rw [← hs]
      exact hk
    · refine r_iload_n dX0_checksum_55 rfl rfl ?_
      refine r_ldc 79764919 dX0_checksum_56 cnX0_48 ?_
      refine r_ixor dX0_checksum_58 ?_
      refine r_istore_n2 dX0_checksum_59 rfl (Nat.le_of_ble_eq_true rfl) ?_
      refine r_iinc_4 (_ + (-1)) dX0_checksum_60 rfl (Nat.le_of_ble_eq_true rfl) rfl ?_
      refine r_goto 22 dX0_checksum_63 (by decide) ?_
      rw [hcl] at c_52
      refine r_weak (by simp [lvle] <;> (repeat' apply And.intro) <;> first | rfl | decide) (ih _ (by omega) ?_)
      have hs := (show crcStep c (us (M r j) (nI m) &&& 1) = _ by first | exact if_pos c_52 | exact if_neg c_52)
      rw [← hs]
      exact hk
set_option maxHeartbeats 4000000 in
set_option maxRecDepth 100000 in
theorem b_crc_out {o r : Nat} {M : Mem} (hB : isBy o r) {n mn : Nat} (hn : M o 1 = nI n) (hn2 : n ≤ 16) (hmn : mn ≤ n) {Q : Option Value → Hp → Prop} (hk : WP mX0_checksum 72 [some (.ref o), some (.int (nI mn)), some (.int (crcN (M r) mn)), none, none, none] [] 0 0 (shp, rfs, M) Q) : ∀ (d j : Nat), j + d = mn → WP mX0_checksum 5 [some (.ref o), some (.int (nI mn)), some (.int (crcN (M r) j)), some (.int (nI j)), none, none] [] 0 0 (shp, rfs, M) Q := by
  obtain ⟨hB1, hB2, hB3, hB4⟩ := id hB
  intro d
  induction d with
  | zero =>
    intro j hj
    have hj : j = mn := by omega
    subst hj
    refine r_iload_n dX0_checksum_5 rfl rfl ?_
    refine r_iload_n dX0_checksum_6 rfl rfl ?_
    refine r_icmp_ge 72 dX0_checksum_7 (by decide) (fun c_7 => ?_) (fun c_7 => absurd (nI_le (Nat.le_refl _) (by omega)) c_7)
    exact r_weak (by simp [lvle] <;> (repeat' apply And.intro) <;> first | rfl | decide) hk
  | succ d ih =>
    intro j hj
    refine r_iload_n dX0_checksum_5 rfl rfl ?_
    refine r_iload_n dX0_checksum_6 rfl rfl ?_
    refine r_icmp_ge 72 dX0_checksum_7 (by decide) (fun c_7 => absurd c_7 (nI_ge (by omega) (by omega))) (fun c_7 => ?_)
    refine r_iload_n dX0_checksum_10 rfl rfl ?_
    refine r_aload_n dX0_checksum_11 rfl rfl ?_
    refine r_getI (N := 2) dX0_checksum_12 fwX0_15 (by first | rfl | assumption) (Nat.le_of_ble_eq_true rfl) rfl ?_
    refine r_icmp_ge 72 dX0_checksum_15 (by decide) (fun c_15 => absurd c_15 (by rw [hn]; exact nI_ge (by omega) (by omega))) (fun c_15 => ?_)
    refine r_bipush 7 dX0_checksum_18 (by decide) ?_
    refine r_istore_4 dX0_checksum_20 rfl (Nat.le_of_ble_eq_true rfl) ?_
    refine r_weak (by simp [lvle] <;> (repeat' apply And.intro) <;> first | rfl | decide) (b_crc_in (mn := nI mn) (j := j) hB (by omega) 8 _ (Nat.le_refl _) ?_)
    rw [show crcBits (M r j) 8 (crcN (M r) j) = crcN (M r) (j + 1) from rfl]
    refine r_iinc_3 (_ + 1) dX0_checksum_66 rfl (Nat.le_of_ble_eq_true rfl) rfl ?_
    refine r_goto 5 dX0_checksum_69 (by decide) ?_
    rw [nI_1]
    exact ih (j + 1) (by omega)
set_option maxHeartbeats 4000000 in
set_option maxRecDepth 100000 in
theorem b_checksum {o r : Nat} {M : Mem} (hB : isBy o r) {n mn : Nat} (hn : M o 1 = nI n) (hn2 : n ≤ 16) (hmn : mn ≤ n) : Gv mX0_checksum [.ref o, .int (nI mn)] M (some (.int (crcN (M r) mn))) M := by
  obtain ⟨hB1, hB2, hB3, hB4⟩ := id hB
  refine con_of (lv := [some (.ref o), some (.int (nI mn)), none, none, none, none]) (by decide) rfl (Nat.le_of_ble_eq_true rfl) (by simp [lvle]) ?_
  refine r_ldc 1378996274 dX0_checksum_0 cnX0_47 ?_
  refine r_istore_n2 dX0_checksum_2 rfl (Nat.le_of_ble_eq_true rfl) ?_
  refine r_iconst 0 dX0_checksum_3 (by decide) ?_
  refine r_istore_n3 dX0_checksum_4 rfl (Nat.le_of_ble_eq_true rfl) ?_
  refine b_crc_out hB hn hn2 hmn ?_ mn 0 (by omega)
  refine r_iload_n dX0_checksum_72 rfl rfl ?_
  refine r_ireturn dX0_checksum_73 rfl (Nat.zero_le _) (Nat.zero_le _) ?_
  exact ⟨rfl, rfl⟩
set_option maxHeartbeats 4000000 in
set_option maxRecDepth 100000 in
theorem b_copy_lp {o r o2 r2 : Nat} {M0 : Mem} (hB : isBy o r) (hB' : isBy o2 r2) {n : Nat} {g : Nat → Int32} (h1 : o2 ∉ [o, r]) (h2 : r2 ∉ [o, r]) (H0 : HB M0 o2 r2 n g) (hok : ∀ j, j < n → okB (g j)) : ∀ (d j : Nat) (M : Mem), j + d = n → HB M o r j g → Fr [o, r] M0 M → ∃ M', WP mX0_copy 6 [some (.ref o), some (.ref o2), some (.int (nI j))] [] 0 0 (shp, rfs, M) (fun r1 h1 => r1 = none ∧ h1 = (shp, rfs, M')) ∧ HB M' o r n g ∧ Fr [o, r] M0 M' := by
  obtain ⟨hB1, hB2, hB3, hB4⟩ := id hB
  obtain ⟨hB1', hB2', hB3', hB4'⟩ := id hB'
  have hn16 := H0.2.1
  intro d
  induction d with
  | zero =>
    intro j M hj H F
    have hj : j = n := by omega
    subst hj
    have hlen : M o2 1 = nI j := by rw [F o2 h1]; exact H0.1
    refine ⟨M, ?_, H, F⟩
    refine r_iload_n dX0_copy_6 rfl rfl ?_
    refine r_aload_n dX0_copy_7 rfl rfl ?_
    refine r_getI (N := 2) dX0_copy_8 fwX0_15 (by first | rfl | assumption) (Nat.le_of_ble_eq_true rfl) rfl ?_
    refine r_icmp_ge 29 dX0_copy_11 (by decide) (fun c_11 => ?_) (fun c_11 => absurd (by rw [hlen]; exact nI_le (Nat.le_refl _) (by omega)) c_11)
    refine r_return dX0_copy_29 rfl (Nat.zero_le _) (Nat.zero_le _) ?_
    exact ⟨rfl, rfl⟩
  | succ d ih =>
    intro j M hj H F
    have hlen : M o2 1 = nI n := by rw [F o2 h1]; exact H0.1
    have hat := b_at (M := M) hB' (x := nI j) hlen hn16
    rw [if_neg (nI_pos (by omega)), hlen, if_neg (nI_ge (by omega) (by omega)), nI_clamp (by omega), F r2 h2, H0.2.2 j (by omega)] at hat
    obtain ⟨M1, g1, H1, F1⟩ := b_addX (x := g j) hB H (by omega) (hok j (by omega)).symm
    obtain ⟨M', w, H', F'⟩ := ih (j + 1) M1 (by omega) H1 (F.tr F1 (fun _ q => q) (fun _ q => q))
    refine ⟨M', ?_, H', F'⟩
    refine r_iload_n dX0_copy_6 rfl rfl ?_
    refine r_aload_n dX0_copy_7 rfl rfl ?_
    refine r_getI (N := 2) dX0_copy_8 fwX0_15 (by first | rfl | assumption) (Nat.le_of_ble_eq_true rfl) rfl ?_
    refine r_icmp_ge 29 dX0_copy_11 (by decide) (fun c_11 => absurd c_11 (by rw [hlen]; exact nI_ge (by omega) (by omega))) (fun c_11 => ?_)
    refine r_aload_n dX0_copy_14 rfl rfl ?_
    refine r_aload_n dX0_copy_15 rfl rfl ?_
    refine r_iload_n dX0_copy_16 rfl rfl ?_
    refine gV1 (Y := mX0_at) (ci := 0) (N := 2) dX0_copy_17 mlX0_26 vkX0_at (by first | rfl | assumption) ⟨by decide, rfl⟩ rfl hat ?_
    refine gW1 (Y := mX0_add) (ci := 0) (N := 2) dX0_copy_20 mlX0_19 vkX0_add (by first | rfl | assumption) ⟨by decide, rfl⟩ rfl g1 ?_
    refine r_iinc_2 (_ + 1) dX0_copy_23 rfl (Nat.le_of_ble_eq_true rfl) rfl ?_
    refine r_goto 6 dX0_copy_26 (by decide) ?_
    rw [nI_1]
    exact w
set_option maxHeartbeats 4000000 in
set_option maxRecDepth 100000 in
theorem b_copyX {o r o2 r2 : Nat} {M : Mem} (hB : isBy o r) (hB' : isBy o2 r2) {n : Nat} {g : Nat → Int32} (h1 : o2 ∉ [o, r]) (h2 : r2 ∉ [o, r]) (H0 : HB M o2 r2 n g) (hok : ∀ j, j < n → okB (g j)) : ∃ M', Gv mX0_copy [.ref o, .ref o2] M none M' ∧ HB M' o r n g ∧ Fr [o, r] M M' := by
  obtain ⟨hB1, hB2, hB3, hB4⟩ := id hB
  obtain ⟨M1, g1, H1, F1⟩ := b_clearX (M := M) hB g
  obtain ⟨M', w, H', F'⟩ := b_copy_lp hB hB' h1 h2 H0 hok n 0 M1 (by omega) H1 F1
  refine ⟨M', ?_, H', F'⟩
  refine con_of (lv := [some (.ref o), some (.ref o2), none]) (by decide) rfl (Nat.le_of_ble_eq_true rfl) (by simp [lvle]) ?_
  refine r_aload_n dX0_copy_0 rfl rfl ?_
  refine gW0 (Y := mX0_clear) (ci := 0) (N := 2) dX0_copy_1 mlX0_23 vkX0_clear (by first | rfl | assumption) ⟨by decide, rfl⟩ rfl g1 ?_
  refine r_iconst 0 dX0_copy_4 (by decide) ?_
  refine r_istore_n2 dX0_copy_5 rfl (Nat.le_of_ble_eq_true rfl) ?_
  exact w
end
section
def lwL : List Nat := [31, 47, 55, 59, 61, 62, 79, 87, 91, 93, 94, 103, 107, 109, 110, 115, 117, 118, 121, 122, 124, 143, 151, 155, 157, 158, 167, 171, 173, 174, 179, 181, 182, 185, 186, 188, 199, 203, 205, 206, 211, 213, 214, 217, 218, 220, 227, 229, 230, 233, 234, 236, 241, 242, 244, 248, 271, 279, 283, 285, 286, 295, 299, 301, 302, 307, 309, 310, 313, 314, 316, 327, 331, 333, 334, 339, 341, 342, 345, 346, 348, 355, 357, 358, 361, 362, 364, 369, 370, 372, 376, 391, 395, 397, 398, 403, 405, 406, 409, 410, 412, 419, 421, 422, 425, 426, 428, 433, 434, 436, 440, 451, 453, 454, 457, 458, 460, 465, 466, 468, 472, 481, 482, 484, 488, 496, 527, 535, 539, 541, 542, 551, 555, 557, 558, 563, 565, 566, 569, 570, 572, 583, 587, 589, 590, 595, 597, 598, 601, 602, 604, 611, 613, 614, 617, 618, 620, 625, 626, 628, 632, 647, 651, 653, 654, 659, 661, 662, 665, 666, 668, 675, 677, 678, 681, 682, 684, 689, 690, 692, 696, 707, 709, 710, 713, 714, 716, 721, 722, 724, 728, 737, 738, 740, 744, 752, 775, 779, 781, 782, 787, 789, 790, 793, 794, 796, 803, 805, 806, 809, 810, 812, 817, 818, 820, 824, 835, 837, 838, 841, 842, 844, 849, 850, 852, 856, 865, 866, 868, 872, 880, 899, 901, 902, 905, 906, 908, 913, 914, 916, 920, 929, 930, 932, 936, 944, 961, 962, 964, 968, 976, 992, 63, 95, 111, 119, 123, 125, 126, 159, 175, 183, 187, 189]
def unL : List Nat := [63, 95, 111, 119, 123, 125, 126, 159, 175, 183, 187, 189]
def vlL : List Nat := [0, 0, 0, 0, 0, 0, 0, 0, 0, 0, 0, 0, 0, 0, 0, 0, 0, 0, 0, 0, 0, 0, 0, 0, 0, 0, 0, 0, 0, 0, 0, 1, 0, 0, 0, 0, 0, 0, 0, 0, 0, 0, 0, 0, 0, 0, 0, 2, 0, 0, 0, 0, 0, 0, 0, 3, 0, 0, 0, 4, 0, 5, 6, 253, 0, 0, 0, 0, 0, 0, 0, 0, 0, 0, 0, 0, 0, 0, 0, 7, 0, 0, 0, 0, 0, 0, 0, 8, 0, 0, 0, 9, 0, 10, 11, 254, 0, 0, 0, 0, 0, 0, 0, 12, 0, 0, 0, 13, 0, 14, 15, 255, 0, 0, 0, 16, 0, 17, 18, 256, 0, 19, 20, 257, 21, 258, 259, 0, 0, 0, 0, 0, 0, 0, 0, 0, 0, 0, 0, 0, 0, 0, 0, 22, 0, 0, 0, 0, 0, 0, 0, 23, 0, 0, 0, 24, 0, 25, 26, 260, 0, 0, 0, 0, 0, 0, 0, 27, 0, 0, 0, 28, 0, 29, 30, 261, 0, 0, 0, 31, 0, 32, 33, 262, 0, 34, 35, 263, 36, 264, 0, 0, 0, 0, 0, 0, 0, 0, 0, 37, 0, 0, 0, 38, 0, 39, 40, 0, 0, 0, 0, 41, 0, 42, 43, 0, 0, 44, 45, 0, 46, 0, 0, 0, 0, 0, 0, 47, 0, 48, 49, 0, 0, 50, 51, 0, 52, 0, 0, 0, 0, 53, 54, 0, 55, 0, 0, 0, 56, 0, 0, 0, 0, 0, 0, 0, 0, 0, 0, 0, 0, 0, 0, 0, 0, 0, 0, 0, 0, 0, 0, 57, 0, 0, 0, 0, 0, 0, 0, 58, 0, 0, 0, 59, 0, 60, 61, 0, 0, 0, 0, 0, 0, 0, 0, 62, 0, 0, 0, 63, 0, 64, 65, 0, 0, 0, 0, 66, 0, 67, 68, 0, 0, 69, 70, 0, 71, 0, 0, 0, 0, 0, 0, 0, 0, 0, 0, 72, 0, 0, 0, 73, 0, 74, 75, 0, 0, 0, 0, 76, 0, 77, 78, 0, 0, 79, 80, 0, 81, 0, 0, 0, 0, 0, 0, 82, 0, 83, 84, 0, 0, 85, 86, 0, 87, 0, 0, 0, 0, 88, 89, 0, 90, 0, 0, 0, 91, 0, 0, 0, 0, 0, 0, 0, 0, 0, 0, 0, 0, 0, 0, 92, 0, 0, 0, 93, 0, 94, 95, 0, 0, 0, 0, 96, 0, 97, 98, 0, 0, 99, 100, 0, 101, 0, 0, 0, 0, 0, 0, 102, 0, 103, 104, 0, 0, 105, 106, 0, 107, 0, 0, 0, 0, 108, 109, 0, 110, 0, 0, 0, 111, 0, 0, 0, 0, 0, 0, 0, 0, 0, 0, 112, 0, 113, 114, 0, 0, 115, 116, 0, 117, 0, 0, 0, 0, 118, 119, 0, 120, 0, 0, 0, 121, 0, 0, 0, 0, 0, 0, 0, 0, 122, 123, 0, 124, 0, 0, 0, 125, 0, 0, 0, 0, 0, 0, 0, 126, 0, 0, 0, 0, 0, 0, 0, 0, 0, 0, 0, 0, 0, 0, 0, 0, 0, 0, 0, 0, 0, 0, 0, 0, 0, 0, 0, 0, 0, 0, 127, 0, 0, 0, 0, 0, 0, 0, 128, 0, 0, 0, 129, 0, 130, 131, 0, 0, 0, 0, 0, 0, 0, 0, 132, 0, 0, 0, 133, 0, 134, 135, 0, 0, 0, 0, 136, 0, 137, 138, 0, 0, 139, 140, 0, 141, 0, 0, 0, 0, 0, 0, 0, 0, 0, 0, 142, 0, 0, 0, 143, 0, 144, 145, 0, 0, 0, 0, 146, 0, 147, 148, 0, 0, 149, 150, 0, 151, 0, 0, 0, 0, 0, 0, 152, 0, 153, 154, 0, 0, 155, 156, 0, 157, 0, 0, 0, 0, 158, 159, 0, 160, 0, 0, 0, 161, 0, 0, 0, 0, 0, 0, 0, 0, 0, 0, 0, 0, 0, 0, 162, 0, 0, 0, 163, 0, 164, 165, 0, 0, 0, 0, 166, 0, 167, 168, 0, 0, 169, 170, 0, 171, 0, 0, 0, 0, 0, 0, 172, 0, 173, 174, 0, 0, 175, 176, 0, 177, 0, 0, 0, 0, 178, 179, 0, 180, 0, 0, 0, 181, 0, 0, 0, 0, 0, 0, 0, 0, 0, 0, 182, 0, 183, 184, 0, 0, 185, 186, 0, 187, 0, 0, 0, 0, 188, 189, 0, 190, 0, 0, 0, 191, 0, 0, 0, 0, 0, 0, 0, 0, 192, 193, 0, 194, 0, 0, 0, 195, 0, 0, 0, 0, 0, 0, 0, 196, 0, 0, 0, 0, 0, 0, 0, 0, 0, 0, 0, 0, 0, 0, 0, 0, 0, 0, 0, 0, 0, 0, 197, 0, 0, 0, 198, 0, 199, 200, 0, 0, 0, 0, 201, 0, 202, 203, 0, 0, 204, 205, 0, 206, 0, 0, 0, 0, 0, 0, 207, 0, 208, 209, 0, 0, 210, 211, 0, 212, 0, 0, 0, 0, 213, 214, 0, 215, 0, 0, 0, 216, 0, 0, 0, 0, 0, 0, 0, 0, 0, 264, 217, 263, 218, 219, 0, 262, 220, 221, 0, 222, 0, 0, 0, 261, 223, 224, 0, 225, 0, 0, 0, 226, 0, 0, 0, 0, 0, 0, 0, 260, 227, 228, 0, 229, 0, 0, 0, 230, 0, 0, 0, 0, 0, 0, 0, 231, 0, 0, 0, 0, 0, 0, 0, 0, 0, 0, 0, 0, 0, 0, 0, 0, 259, 258, 232, 257, 233, 234, 0, 256, 235, 236, 0, 237, 0, 0, 0, 255, 238, 239, 0, 240, 0, 0, 0, 241, 0, 0, 0, 0, 0, 0, 0, 254, 242, 243, 0, 244, 0, 0, 0, 245, 0, 0, 0, 0, 0, 0, 0, 246, 0, 0, 0, 0, 0, 0, 0, 0, 0, 0, 0, 0, 0, 0, 0, 253, 247, 248, 0, 249, 0, 0, 0, 250, 0, 0, 0, 0, 0, 0, 0, 251, 0, 0, 0, 0, 0, 0, 0, 0, 0, 0, 0, 0, 0, 0, 0, 252, 0, 0, 0, 0, 0, 0, 0, 0, 0, 0, 0, 0, 0, 0, 0, 0, 0, 0, 0, 0, 0, 0, 0, 0, 0, 0, 0, 0, 0, 0, 0]
def enL : List Nat := [0, 0, 0, 0, 0, 0, 0, 0, 0, 0, 0, 0, 0, 0, 0, 0, 0, 0, 0, 0, 0, 0, 0, 0, 0, 0, 0, 0, 0, 0, 0, 1, 0, 0, 0, 0, 0, 0, 0, 0, 0, 0, 0, 0, 0, 0, 0, 2, 0, 0, 0, 0, 0, 0, 0, 3, 0, 0, 0, 4, 0, 5, 6, 0, 0, 0, 0, 0, 0, 0, 0, 0, 0, 0, 0, 0, 0, 0, 0, 7, 0, 0, 0, 0, 0, 0, 0, 8, 0, 0, 0, 9, 0, 10, 11, 0, 0, 0, 0, 0, 0, 0, 0, 12, 0, 0, 0, 13, 0, 14, 15, 0, 0, 0, 0, 16, 0, 17, 18, 0, 0, 19, 20, 0, 21, 0, 0, 0, 0, 0, 0, 0, 0, 0, 0, 0, 0, 0, 0, 0, 0, 0, 0, 22, 0, 0, 0, 0, 0, 0, 0, 23, 0, 0, 0, 24, 0, 25, 26, 0, 0, 0, 0, 0, 0, 0, 0, 27, 0, 0, 0, 28, 0, 29, 30, 0, 0, 0, 0, 31, 0, 32, 33, 0, 0, 34, 35, 0, 36, 0, 0, 0, 0, 0, 0, 0, 0, 0, 0, 37, 0, 0, 0, 38, 0, 39, 40, 0, 0, 0, 0, 41, 0, 42, 43, 0, 0, 44, 45, 0, 46, 0, 0, 0, 0, 0, 0, 47, 0, 48, 49, 0, 0, 50, 51, 0, 52, 0, 0, 0, 0, 53, 54, 0, 55, 0, 0, 0, 56, 0, 0, 0, 0, 0, 0, 0, 0, 0, 0, 0, 0, 0, 0, 0, 0, 0, 0, 0, 0, 0, 0, 57, 0, 0, 0, 0, 0, 0, 0, 58, 0, 0, 0, 59, 0, 60, 61, 0, 0, 0, 0, 0, 0, 0, 0, 62, 0, 0, 0, 63, 0, 64, 65, 0, 0, 0, 0, 66, 0, 67, 68, 0, 0, 69, 70, 0, 71, 0, 0, 0, 0, 0, 0, 0, 0, 0, 0, 72, 0, 0, 0, 73, 0, 74, 75, 0, 0, 0, 0, 76, 0, 77, 78, 0, 0, 79, 80, 0, 81, 0, 0, 0, 0, 0, 0, 82, 0, 83, 84, 0, 0, 85, 86, 0, 87, 0, 0, 0, 0, 88, 89, 0, 90, 0, 0, 0, 91, 0, 0, 0, 0, 0, 0, 0, 0, 0, 0, 0, 0, 0, 0, 92, 0, 0, 0, 93, 0, 94, 95, 0, 0, 0, 0, 96, 0, 97, 98, 0, 0, 99, 100, 0, 101, 0, 0, 0, 0, 0, 0, 102, 0, 103, 104, 0, 0, 105, 106, 0, 107, 0, 0, 0, 0, 108, 109, 0, 110, 0, 0, 0, 111, 0, 0, 0, 0, 0, 0, 0, 0, 0, 0, 112, 0, 113, 114, 0, 0, 115, 116, 0, 117, 0, 0, 0, 0, 118, 119, 0, 120, 0, 0, 0, 121, 0, 0, 0, 0, 0, 0, 0, 0, 122, 123, 0, 124, 0, 0, 0, 125, 0, 0, 0, 0, 0, 0, 0, 126, 0, 0, 0, 0, 0, 0, 0, 0, 0, 0, 0, 0, 0, 0, 0, 0, 0, 0, 0, 0, 0, 0, 0, 0, 0, 0, 0, 0, 0, 0, 127, 0, 0, 0, 0, 0, 0, 0, 128, 0, 0, 0, 129, 0, 130, 131, 0, 0, 0, 0, 0, 0, 0, 0, 132, 0, 0, 0, 133, 0, 134, 135, 0, 0, 0, 0, 136, 0, 137, 138, 0, 0, 139, 140, 0, 141, 0, 0, 0, 0, 0, 0, 0, 0, 0, 0, 142, 0, 0, 0, 143, 0, 144, 145, 0, 0, 0, 0, 146, 0, 147, 148, 0, 0, 149, 150, 0, 151, 0, 0, 0, 0, 0, 0, 152, 0, 153, 154, 0, 0, 155, 156, 0, 157, 0, 0, 0, 0, 158, 159, 0, 160, 0, 0, 0, 161, 0, 0, 0, 0, 0, 0, 0, 0, 0, 0, 0, 0, 0, 0, 162, 0, 0, 0, 163, 0, 164, 165, 0, 0, 0, 0, 166, 0, 167, 168, 0, 0, 169, 170, 0, 171, 0, 0, 0, 0, 0, 0, 172, 0, 173, 174, 0, 0, 175, 176, 0, 177, 0, 0, 0, 0, 178, 179, 0, 180, 0, 0, 0, 181, 0, 0, 0, 0, 0, 0, 0, 0, 0, 0, 182, 0, 183, 184, 0, 0, 185, 186, 0, 187, 0, 0, 0, 0, 188, 189, 0, 190, 0, 0, 0, 191, 0, 0, 0, 0, 0, 0, 0, 0, 192, 193, 0, 194, 0, 0, 0, 195, 0, 0, 0, 0, 0, 0, 0, 196, 0, 0, 0, 0, 0, 0, 0, 0, 0, 0, 0, 0, 0, 0, 0, 0, 0, 0, 0, 0, 0, 0, 197, 0, 0, 0, 198, 0, 199, 200, 0, 0, 0, 0, 201, 0, 202, 203, 0, 0, 204, 205, 0, 206, 0, 0, 0, 0, 0, 0, 207, 0, 208, 209, 0, 0, 210, 211, 0, 212, 0, 0, 0, 0, 213, 214, 0, 215, 0, 0, 0, 216, 0, 0, 0, 0, 0, 0, 0, 0, 0, 0, 217, 0, 218, 219, 0, 0, 220, 221, 0, 222, 0, 0, 0, 0, 223, 224, 0, 225, 0, 0, 0, 226, 0, 0, 0, 0, 0, 0, 0, 0, 227, 228, 0, 229, 0, 0, 0, 230, 0, 0, 0, 0, 0, 0, 0, 231, 0, 0, 0, 0, 0, 0, 0, 0, 0, 0, 0, 0, 0, 0, 0, 0, 0, 0, 232, 0, 233, 234, 0, 0, 235, 236, 0, 237, 0, 0, 0, 0, 238, 239, 0, 240, 0, 0, 0, 241, 0, 0, 0, 0, 0, 0, 0, 0, 242, 243, 0, 244, 0, 0, 0, 245, 0, 0, 0, 0, 0, 0, 0, 246, 0, 0, 0, 0, 0, 0, 0, 0, 0, 0, 0, 0, 0, 0, 0, 0, 247, 248, 0, 249, 0, 0, 0, 250, 0, 0, 0, 0, 0, 0, 0, 251, 0, 0, 0, 0, 0, 0, 0, 0, 0, 0, 0, 0, 0, 0, 0, 252, 0, 0, 0, 0, 0, 0, 0, 0, 0, 0, 0, 0, 0, 0, 0, 0, 0, 0, 0, 0, 0, 0, 0, 0, 0, 0, 0, 0, 0, 0, 0]
def cd (x : Nat) : Int32 := if x = 0 then -1 else nI (x - 1)
def lw (k : Nat) : Int32 := nI (lwL.getD k 0)
def vl (w : Nat) : Int32 := cd (vlL.getD w 0)
def en (w : Nat) : Int32 := cd (enL.getD w 0)
def eI : Bool → Int32
  | true => 1
  | false => 0
def wd (k : Nat) (e : Bool) : Int32 := if k < 252 then lw k else if e = true then 1023 - lw k else lw k
def popc (w : Nat) : Nat := (List.range 10).foldl (fun n i => n + w / 2 ^ i % 2) 0
/-- what the class's valueOf tells -/
def cvf (w : Nat) (e : Bool) : Int32 := if vl w < 252 then vl w else if (if nI (popc w) < 5 then (1 : Int32) else 0) = eI e then vl w else -2
/-- a search in a row, from place k on, d places -/
def fnd (f : Nat → Int32) (v : Int32) : Nat → Nat → Int32
  | 0, _ => -1
  | d + 1, k => if f k = v then nI k else fnd f v d (k + 1)
theorem fnd_congr {f g : Nat → Int32} {v : Int32} : ∀ (d k : Nat), (∀ j, k ≤ j → j < k + d → f j = g j) → fnd f v d k = fnd g v d k
  | 0, _, _ => rfl
  | d + 1, k, h => by
    simp only [fnd]
    rw [h k (by omega) (by omega), fnd_congr d (k + 1) (fun j h1 h2 => h j (by omega) (by omega))]
def ufn (w : Nat) (e : Bool) : Int32 := fnd (fun k => lw (252 + k)) (if e = true then 1023 - nI w else nI w) 12 0
def mvf (w : Nat) (e : Bool) : Int32 := if en w = -1 then (if ufn w e = -1 then -1 else 252 + ufn w e) else en w
def TabC (M : Mem) : Prop := (∀ k, k < 264 → M 2 k = lw k) ∧ (∀ w, w < 1024 → M 3 w = vl w)
def TabM (M : Mem) : Prop := (∀ k, k < 252 → M 41 k = lw k) ∧ (∀ w, w < 1024 → M 42 w = en w) ∧ (∀ k, k < 12 → M 43 k = lw (252 + k))
theorem TabC.fr {M M' : Mem} {ex : List Nat} (h : TabC M) (F : Fr ex M M') (h2 : 2 ∉ ex) (h3 : 3 ∉ ex) : TabC M' := ⟨fun k q => by rw [F 2 h2]; exact h.1 k q, fun k q => by rw [F 3 h3]; exact h.2 k q⟩
theorem TabM.fr {M M' : Mem} {ex : List Nat} (h : TabM M) (F : Fr ex M M') (h1 : 41 ∉ ex) (h2 : 42 ∉ ex) (h3 : 43 ∉ ex) : TabM M' := ⟨fun k q => by rw [F 41 h1]; exact h.1 k q, fun k q => by rw [F 42 h2]; exact h.2.1 k q, fun k q => by rw [F 43 h3]; exact h.2.2 k q⟩
set_option maxRecDepth 100000 in
theorem wd_tab : ∀ k, k < 264 → (k < 252 → wd k true = lw k ∧ wd k false = lw k) ∧ (252 ≤ k → wd k true = 1023 ^^^ lw k ∧ wd k false = lw k) := by decide +kernel
def fnc (g : Nat → Nat) (x : Nat) : Nat → Nat → Nat
  | 0, _ => 0
  | d + 1, k => if g k = x then k + 1 else fnc g x d (k + 1)
def ufc (w : Nat) (e : Bool) : Nat := fnc (fun k => unL.getD k 0) (if e = true then 1023 - w else w) 12 0
def chkw (w a b : Nat) : Bool := (Nat.blt 0 a && Nat.beq b a && Nat.ble a 252 && Nat.beq (ufc w false) 0 && Nat.beq (ufc w true) 0) || (Nat.beq a 0 && Nat.beq b 0 && Nat.beq (ufc w false) 0 && Nat.beq (ufc w true) 0) || (Nat.beq a 0 && Nat.blt 0 (ufc w false) && Nat.beq (ufc w true) 0 && Nat.beq b (252 + ufc w false) && Nat.beq (popc w) 6 && Nat.ble (ufc w false) 12) || (Nat.beq a 0 && Nat.beq (ufc w false) 0 && Nat.blt 0 (ufc w true) && Nat.beq b (252 + ufc w true) && Nat.beq (popc w) 4 && Nat.ble (ufc w true) 12)
def chkL : List Nat → List Nat → Nat → Bool
  | a :: as, b :: bs, w => chkw w a b && chkL as bs (w + 1)
  | _, _, _ => true
theorem chkL_ok : ∀ (as bs : List Nat) (w : Nat), chkL as bs w = true → ∀ j, j < as.length → j < bs.length → chkw (w + j) (as.getD j 0) (bs.getD j 0) = true
  | [], _, _, _, j, h1, _ => absurd h1 (by simp)
  | _ :: _, [], _, _, j, _, h2 => absurd h2 (by simp)
  | a :: as, b :: bs, w, h, j, h1, h2 => by
    simp only [chkL, Bool.and_eq_true] at h
    cases j with
    | zero => simpa using h.1
    | succ j =>
      have := chkL_ok as bs (w + 1) h.2 j (by simpa using h1) (by simpa using h2)
      rw [show w + (j + 1) = w + 1 + j by omega]
      simpa using this
set_option maxRecDepth 100000 in
theorem chk_tab : chkL enL vlL 0 = true := by decide +kernel
set_option maxRecDepth 100000 in
theorem len_tab : enL.length = 1024 ∧ vlL.length = 1024 := by decide +kernel
set_option maxRecDepth 100000 in
theorem un_tab : ∀ k, k < 12 → lw (252 + k) = nI (unL.getD k 0) ∧ unL.getD k 0 < 1024 := by decide +kernel
theorem fnd_fnc {f : Nat → Int32} {g : Nat → Nat} {x : Nat} (hx : x < 2 ^ 31) : ∀ (d k : Nat), (∀ j, k ≤ j → j < k + d → f j = nI (g j) ∧ g j < 2 ^ 31) → fnd f (nI x) d k = cd (fnc g x d k)
  | 0, _, _ => rfl
  | d + 1, k, h => by
    simp only [fnd, fnc]
    rw [(h k (by omega) (by omega)).1]
    by_cases hq : g k = x
    · rw [if_pos (by rw [hq]), if_pos hq]
      rfl
    · rw [if_neg (fun z => hq ((nI_eq (h k (by omega) (by omega)).2 hx).mp z)), if_neg hq]
      exact fnd_fnc hx d (k + 1) (fun j h1 h2 => h j (by omega) (by omega))
theorem ufn_ufc {w : Nat} (hw : w < 1024) (e : Bool) : ufn w e = cd (ufc w e) := by
  unfold ufn ufc
  have h : ∀ j, 0 ≤ j → j < 0 + 12 → (fun k => lw (252 + k)) j = nI ((fun k => unL.getD k 0) j) ∧ (fun k => unL.getD k 0) j < 2 ^ 31 := fun j _ h2 => ⟨(un_tab j (by omega)).1, by have := (un_tab j (by omega)).2; dsimp only; omega⟩
  cases e with
  | true =>
    rw [if_pos rfl, if_pos rfl, show (1023 : Int32) - nI w = nI (1023 - w) from pk_sub (a := 1023) (b := w) (by omega)]
    exact fnd_fnc (by omega) 12 0 h
  | false =>
    rw [if_neg (by decide), if_neg (by decide)]
    exact fnd_fnc (by omega) 12 0 h
/-- a word is EVEN, or none, or UNEVEN by LACK, or by EXCESS -/
theorem w_kinds {w : Nat} (hw : w < 1024) : (∃ i, i < 252 ∧ en w = nI i ∧ vl w = nI i ∧ ufn w true = -1 ∧ ufn w false = -1) ∨ (en w = -1 ∧ vl w = -1 ∧ ufn w true = -1 ∧ ufn w false = -1) ∨ (∃ k, k < 12 ∧ en w = -1 ∧ vl w = nI (252 + k) ∧ ufn w false = nI k ∧ ufn w true = -1 ∧ popc w = 6) ∨ (∃ k, k < 12 ∧ en w = -1 ∧ vl w = nI (252 + k) ∧ ufn w true = nI k ∧ ufn w false = -1 ∧ popc w = 4) := by
  have h := chkL_ok enL vlL 0 chk_tab w (by rw [len_tab.1]; exact hw) (by rw [len_tab.2]; exact hw)
  rw [Nat.zero_add] at h
  rw [ufn_ufc hw, ufn_ufc hw]
  unfold en vl
  generalize enL.getD w 0 = a at h ⊢
  generalize vlL.getD w 0 = b at h ⊢
  unfold chkw at h
  generalize ufc w false = u0 at h ⊢
  generalize ufc w true = u1 at h ⊢
  generalize popc w = p at h ⊢
  simp only [Bool.or_eq_true, Bool.and_eq_true, Nat.blt_eq, Nat.ble_eq, Nat.beq_eq] at h
  rcases h with ((h | h) | h) | h
  · obtain ⟨⟨⟨⟨h1, rfl⟩, h3⟩, rfl⟩, rfl⟩ := h
    refine Or.inl ⟨b - 1, by omega, ?_, ?_, rfl, rfl⟩ <;> simp only [cd, if_neg (show ¬ b = 0 by omega)]
  · obtain ⟨⟨⟨rfl, rfl⟩, rfl⟩, rfl⟩ := h
    exact Or.inr (Or.inl ⟨rfl, rfl, rfl, rfl⟩)
  · obtain ⟨⟨⟨⟨⟨rfl, h1⟩, rfl⟩, rfl⟩, rfl⟩, h2⟩ := h
    refine Or.inr (Or.inr (Or.inl ⟨u0 - 1, by omega, rfl, ?_, ?_, rfl, rfl⟩))
    · simp only [cd, if_neg (show ¬ 252 + u0 = 0 by omega)]
      congr 1
      omega
    · simp only [cd, if_neg (show ¬ u0 = 0 by omega)]
  · obtain ⟨⟨⟨⟨⟨rfl, rfl⟩, h1⟩, rfl⟩, rfl⟩, h2⟩ := h
    refine Or.inr (Or.inr (Or.inr ⟨u1 - 1, by omega, rfl, ?_, ?_, rfl, rfl⟩))
    · simp only [cd, if_neg (show ¬ 252 + u1 = 0 by omega)]
      congr 1
      omega
    · simp only [cd, if_neg (show ¬ u1 = 0 by omega)]
/-- the JDK's bitCount, of ten bits -/
def bcE (x : Int32) : Int32 :=
  let a := x - (us x 1 &&& 1431655765)
  let b := (a &&& 858993459) + (us a 2 &&& 858993459)
  let c := (b + us b 4) &&& 252645135
  let d := c + us c 8
  let e := d + us d 16
  e &&& 63
set_option maxRecDepth 100000 in
theorem bc_tab : ∀ w, w < 1024 → bcE (nI w) = nI (popc w) := by decide +kernel
set_option maxHeartbeats 4000000 in
set_option maxRecDepth 100000 in
theorem j_bitCount {M : Mem} {x : Int32} : Gv mJ6_bitCount_0f7a4 [.int x] M (some (.int (bcE x))) M := by
  refine con_of (lv := [some (.int x)]) (by decide) rfl (Nat.le_of_ble_eq_true rfl) (by simp [lvle]) ?_
  refine r_iload_n dJ6_bitCount_0f7a4_0 rfl rfl ?_
  refine r_iload_n dJ6_bitCount_0f7a4_1 rfl rfl ?_
  refine r_iconst 1 dJ6_bitCount_0f7a4_2 (by decide) ?_
  refine r_iushr dJ6_bitCount_0f7a4_3 ?_
  refine r_ldcw 1431655765 dJ6_bitCount_0f7a4_4 cnJ6_265 ?_
  refine r_iand dJ6_bitCount_0f7a4_7 ?_
  refine r_isub dJ6_bitCount_0f7a4_8 ?_
  refine r_istore_n0 dJ6_bitCount_0f7a4_9 rfl (Nat.le_of_ble_eq_true rfl) ?_
  refine r_iload_n dJ6_bitCount_0f7a4_10 rfl rfl ?_
  refine r_ldcw 858993459 dJ6_bitCount_0f7a4_11 cnJ6_266 ?_
  refine r_iand dJ6_bitCount_0f7a4_14 ?_
  refine r_iload_n dJ6_bitCount_0f7a4_15 rfl rfl ?_
  refine r_iconst 2 dJ6_bitCount_0f7a4_16 (by decide) ?_
  refine r_iushr dJ6_bitCount_0f7a4_17 ?_
  refine r_ldcw 858993459 dJ6_bitCount_0f7a4_18 cnJ6_266 ?_
  refine r_iand dJ6_bitCount_0f7a4_21 ?_
  refine r_iadd dJ6_bitCount_0f7a4_22 ?_
  refine r_istore_n0 dJ6_bitCount_0f7a4_23 rfl (Nat.le_of_ble_eq_true rfl) ?_
  refine r_iload_n dJ6_bitCount_0f7a4_24 rfl rfl ?_
  refine r_iload_n dJ6_bitCount_0f7a4_25 rfl rfl ?_
  refine r_iconst 4 dJ6_bitCount_0f7a4_26 (by decide) ?_
  refine r_iushr dJ6_bitCount_0f7a4_27 ?_
  refine r_iadd dJ6_bitCount_0f7a4_28 ?_
  refine r_ldcw 252645135 dJ6_bitCount_0f7a4_29 cnJ6_267 ?_
  refine r_iand dJ6_bitCount_0f7a4_32 ?_
  refine r_istore_n0 dJ6_bitCount_0f7a4_33 rfl (Nat.le_of_ble_eq_true rfl) ?_
  refine r_iload_n dJ6_bitCount_0f7a4_34 rfl rfl ?_
  refine r_iload_n dJ6_bitCount_0f7a4_35 rfl rfl ?_
  refine r_bipush 8 dJ6_bitCount_0f7a4_36 (by decide) ?_
  refine r_iushr dJ6_bitCount_0f7a4_38 ?_
  refine r_iadd dJ6_bitCount_0f7a4_39 ?_
  refine r_istore_n0 dJ6_bitCount_0f7a4_40 rfl (Nat.le_of_ble_eq_true rfl) ?_
  refine r_iload_n dJ6_bitCount_0f7a4_41 rfl rfl ?_
  refine r_iload_n dJ6_bitCount_0f7a4_42 rfl rfl ?_
  refine r_bipush 16 dJ6_bitCount_0f7a4_43 (by decide) ?_
  refine r_iushr dJ6_bitCount_0f7a4_45 ?_
  refine r_iadd dJ6_bitCount_0f7a4_46 ?_
  refine r_istore_n0 dJ6_bitCount_0f7a4_47 rfl (Nat.le_of_ble_eq_true rfl) ?_
  refine r_iload_n dJ6_bitCount_0f7a4_48 rfl rfl ?_
  refine r_bipush 63 dJ6_bitCount_0f7a4_49 (by decide) ?_
  refine r_iand dJ6_bitCount_0f7a4_51 ?_
  refine r_ireturn dJ6_bitCount_0f7a4_52 rfl (Nat.zero_le _) (Nat.zero_le _) ?_
  exact ⟨rfl, rfl⟩
set_option maxHeartbeats 4000000 in
set_option maxRecDepth 100000 in
theorem m_in_t {M : Mem} {x a b : Int32} (h1 : ¬ x < a) (h2 : ¬ b < x) : Gv mX6_in [.int x, .int a, .int b] M (some (.int 1)) M := by
  refine con_of (lv := [some (.int x), some (.int a), some (.int b)]) (by decide) rfl (Nat.le_of_ble_eq_true rfl) (by simp [lvle]) ?_
  refine r_iload_n dX6_in_0 rfl rfl ?_
  refine r_iload_n dX6_in_1 rfl rfl ?_
  refine r_icmp_lt 14 dX6_in_2 (by decide) (fun c_2 => absurd c_2 h1) (fun c_2 => ?_)
  refine r_iload_n dX6_in_5 rfl rfl ?_
  refine r_iload_n dX6_in_6 rfl rfl ?_
  refine r_icmp_gt 14 dX6_in_7 (by decide) (fun c_7 => absurd c_7 h2) (fun c_7 => ?_)
  refine r_iconst 1 dX6_in_10 (by decide) ?_
  refine r_goto 15 dX6_in_11 (by decide) ?_
  refine r_zreturn dX6_in_15 rfl (by decide) (Nat.zero_le _) (Nat.zero_le _) ?_
  exact ⟨rfl, rfl⟩
set_option maxHeartbeats 4000000 in
set_option maxRecDepth 100000 in
theorem m_in_f {M : Mem} {x a b : Int32} (h : x < a ∨ b < x) : Gv mX6_in [.int x, .int a, .int b] M (some (.int 0)) M := by
  refine con_of (lv := [some (.int x), some (.int a), some (.int b)]) (by decide) rfl (Nat.le_of_ble_eq_true rfl) (by simp [lvle]) ?_
  refine r_iload_n dX6_in_0 rfl rfl ?_
  refine r_iload_n dX6_in_1 rfl rfl ?_
  refine r_icmp_lt 14 dX6_in_2 (by decide) (fun c_2 => ?_) (fun c_2 => ?_)
  · refine r_iconst 0 dX6_in_14 (by decide) ?_
    refine r_zreturn dX6_in_15 rfl (by decide) (Nat.zero_le _) (Nat.zero_le _) ?_
    exact ⟨rfl, rfl⟩
  · refine r_iload_n dX6_in_5 rfl rfl ?_
    refine r_iload_n dX6_in_6 rfl rfl ?_
    refine r_icmp_gt 14 dX6_in_7 (by decide) (fun c_7 => ?_) (fun c_7 => absurd h (fun q => q.elim c_2 c_7))
    refine r_iconst 0 dX6_in_14 (by decide) ?_
    refine r_zreturn dX6_in_15 rfl (by decide) (Nat.zero_le _) (Nat.zero_le _) ?_
    exact ⟨rfl, rfl⟩
set_option maxHeartbeats 4000000 in
set_option maxRecDepth 100000 in
theorem m_isTag_t {M : Mem} {x : Int32} (h1 : ¬ x < 0) (h2 : ¬ 7 < x) : Gv mX6_isTag [.int x] M (some (.int 1)) M := by
  refine con_of (lv := [some (.int x)]) (by decide) rfl (Nat.le_of_ble_eq_true rfl) (by simp [lvle]) ?_
  refine r_iload_n dX6_isTag_0 rfl rfl ?_
  refine r_iconst 0 dX6_isTag_1 (by decide) ?_
  refine r_bipush 7 dX6_isTag_2 (by decide) ?_
  refine gS3 (Y := mX6_in) dX6_isTag_4 mlX6_81 ckX6_in skX6_in rfl (m_in_t h1 h2) ?_
  refine r_zreturn dX6_isTag_7 rfl (by decide) (Nat.zero_le _) (Nat.zero_le _) ?_
  exact ⟨rfl, rfl⟩
set_option maxHeartbeats 4000000 in
set_option maxRecDepth 100000 in
theorem m_isTag_f {M : Mem} {x : Int32} (h : x < 0 ∨ 7 < x) : Gv mX6_isTag [.int x] M (some (.int 0)) M := by
  refine con_of (lv := [some (.int x)]) (by decide) rfl (Nat.le_of_ble_eq_true rfl) (by simp [lvle]) ?_
  refine r_iload_n dX6_isTag_0 rfl rfl ?_
  refine r_iconst 0 dX6_isTag_1 (by decide) ?_
  refine r_bipush 7 dX6_isTag_2 (by decide) ?_
  refine gS3 (Y := mX6_in) dX6_isTag_4 mlX6_81 ckX6_in skX6_in rfl (m_in_f h) ?_
  refine r_zreturn dX6_isTag_7 rfl (by decide) (Nat.zero_le _) (Nat.zero_le _) ?_
  exact ⟨rfl, rfl⟩
set_option maxHeartbeats 4000000 in
set_option maxRecDepth 100000 in
theorem m_isEven_t {M : Mem} {x : Int32} (h : ¬ 252 ≤ x) : Gv mX6_isEven [.int x] M (some (.int 1)) M := by
  refine con_of (lv := [some (.int x)]) (by decide) rfl (Nat.le_of_ble_eq_true rfl) (by simp [lvle]) ?_
  refine r_iload_n dX6_isEven_0 rfl rfl ?_
  refine r_sipush 252 dX6_isEven_1 (by decide) ?_
  refine r_icmp_ge 11 dX6_isEven_4 (by decide) (fun c_4 => absurd c_4 h) (fun c_4 => ?_)
  refine r_iconst 1 dX6_isEven_7 (by decide) ?_
  refine r_goto 12 dX6_isEven_8 (by decide) ?_
  refine r_zreturn dX6_isEven_12 rfl (by decide) (Nat.zero_le _) (Nat.zero_le _) ?_
  exact ⟨rfl, rfl⟩
set_option maxHeartbeats 4000000 in
set_option maxRecDepth 100000 in
theorem m_isEven_f {M : Mem} {x : Int32} (h : 252 ≤ x) : Gv mX6_isEven [.int x] M (some (.int 0)) M := by
  refine con_of (lv := [some (.int x)]) (by decide) rfl (Nat.le_of_ble_eq_true rfl) (by simp [lvle]) ?_
  refine r_iload_n dX6_isEven_0 rfl rfl ?_
  refine r_sipush 252 dX6_isEven_1 (by decide) ?_
  refine r_icmp_ge 11 dX6_isEven_4 (by decide) (fun c_4 => ?_) (fun c_4 => absurd h c_4)
  refine r_iconst 0 dX6_isEven_11 (by decide) ?_
  refine r_zreturn dX6_isEven_12 rfl (by decide) (Nat.zero_le _) (Nat.zero_le _) ?_
  exact ⟨rfl, rfl⟩
set_option maxHeartbeats 4000000 in
set_option maxRecDepth 100000 in
theorem m_uneven_lp {M : Mem} {a b v : Int32} : ∀ (d k : Nat), k + d = 12 → WP mX6_unevenOf 17 [some (.ref 40), some (.int a), some (.int b), some (.int v), some (.int (nI k))] [] 0 0 (shp, rfs, M) (fun r1 h1 => r1 = some (.int (fnd (M 43) v d k)) ∧ h1 = (shp, rfs, M)) := by
  intro d
  induction d with
  | zero =>
    intro k hk
    have hk : k = 12 := by omega
    subst hk
    refine r_iload dX6_unevenOf_17 rfl ?_
    refine r_bipush 12 dX6_unevenOf_19 (by decide) ?_
    refine r_icmp_ge 44 dX6_unevenOf_21 (by decide) (fun c_21 => ?_) (fun c_21 => absurd (by decide) c_21)
    refine r_iconst (-1) dX6_unevenOf_44 (by decide) ?_
    refine r_ireturn dX6_unevenOf_45 rfl (Nat.zero_le _) (Nat.zero_le _) ?_
    exact ⟨rfl, rfl⟩
  | succ d ih =>
    intro k hk
    have hcl : (nI k).toNatClampNeg = k := nI_clamp (by omega)
    refine r_iload dX6_unevenOf_17 rfl ?_
    refine r_bipush 12 dX6_unevenOf_19 (by decide) ?_
    refine r_icmp_ge 44 dX6_unevenOf_21 (by decide) (fun c_21 => absurd c_21 (nI_ge (a := k) (b := 12) (by omega) (by decide))) (fun c_21 => ?_)
    refine r_aload_n dX6_unevenOf_24 rfl rfl ?_
    refine r_getR (N := 35) dX6_unevenOf_25 fwX6_16 (by first | rfl | assumption) (Nat.le_of_ble_eq_true rfl) rfl (by first | rfl | assumption) ?_
    refine r_iload dX6_unevenOf_28 rfl ?_
    refine r_iaload dX6_unevenOf_30 (by first | rfl | assumption) (by exact vp_in_nI (by omega) (by decide)) ?_
    refine r_iload_n dX6_unevenOf_31 rfl rfl ?_
    refine r_icmp_ne 38 dX6_unevenOf_32 (by decide) (fun c_32 => ?_) (fun c_32 => ?_)
    · refine r_iinc_4 (_ + 1) dX6_unevenOf_38 rfl (Nat.le_of_ble_eq_true rfl) rfl ?_
      refine r_goto 17 dX6_unevenOf_41 (by decide) ?_
      rw [nI_1, hcl] at *
      simp only [fnd, if_neg c_32]
      exact ih (k + 1) (by omega)
    · refine r_iload dX6_unevenOf_35 rfl ?_
      refine r_ireturn dX6_unevenOf_37 rfl (Nat.zero_le _) (Nat.zero_le _) ?_
      rw [hcl] at c_32
      simp only [fnd, if_pos c_32, and_self]
set_option maxHeartbeats 4000000 in
set_option maxRecDepth 100000 in
theorem m_unevenOf {M : Mem} (T : TabM M) {w : Nat} {e : Bool} : Gv mX6_unevenOf [.ref 40, .int (nI w), .int (eI e)] M (some (.int (ufn w e))) M := by
  have hc : ∀ v, fnd (M 43) v 12 0 = fnd (fun k => lw (252 + k)) v 12 0 := fun v => fnd_congr 12 0 (fun j _ h => T.2.2 j (by omega))
  have hl := fun v : Int32 => m_uneven_lp (M := M) (a := nI w) (b := eI e) (v := v) 12 0 rfl
  refine con_of (lv := [some (.ref 40), some (.int (nI w)), some (.int (eI e)), none, none]) (by decide) rfl (Nat.le_of_ble_eq_true rfl) (by simp [lvle]) ?_
  cases e with
  | true =>
    have hl := hl (1023 - nI w)
    rw [hc] at hl
    refine r_iload_n dX6_unevenOf_0 rfl rfl ?_
    refine r_if_eq 12 dX6_unevenOf_1 (by decide) (fun c_1 => absurd c_1 (by decide)) (fun c_1 => ?_)
    refine r_sipush 1023 dX6_unevenOf_4 (by decide) ?_
    refine r_iload_n dX6_unevenOf_7 rfl rfl ?_
    refine r_isub dX6_unevenOf_8 ?_
    refine r_goto 13 dX6_unevenOf_9 (by decide) ?_
    refine r_istore_n3 dX6_unevenOf_13 rfl (Nat.le_of_ble_eq_true rfl) ?_
    refine r_iconst 0 dX6_unevenOf_14 (by decide) ?_
    refine r_istore_4 dX6_unevenOf_15 rfl (Nat.le_of_ble_eq_true rfl) ?_
    exact hl
  | false =>
    have hl := hl (nI w)
    rw [hc] at hl
    refine r_iload_n dX6_unevenOf_0 rfl rfl ?_
    refine r_if_eq 12 dX6_unevenOf_1 (by decide) (fun c_1 => ?_) (fun c_1 => absurd rfl c_1)
    refine r_iload_n dX6_unevenOf_12 rfl rfl ?_
    refine r_istore_n3 dX6_unevenOf_13 rfl (Nat.le_of_ble_eq_true rfl) ?_
    refine r_iconst 0 dX6_unevenOf_14 (by decide) ?_
    refine r_istore_4 dX6_unevenOf_15 rfl (Nat.le_of_ble_eq_true rfl) ?_
    exact hl
set_option maxHeartbeats 4000000 in
set_option maxRecDepth 100000 in
theorem m_wordOf {M : Mem} (T : TabM M) {k : Nat} (hk : k < 264) {e : Bool} : Gv mX6_wordOf [.ref 40, .int (nI k), .int (eI e)] M (some (.int (wd k e))) M := by
  have hcl : (nI k).toNatClampNeg = k := nI_clamp (by omega)
  refine con_of (lv := [some (.ref 40), some (.int (nI k)), some (.int (eI e)), none]) (by decide) rfl (Nat.le_of_ble_eq_true rfl) (by simp [lvle]) ?_
  by_cases h : k < 252
  · refine r_iload_n dX6_wordOf_0 rfl rfl ?_
    refine gS1 (Y := mX6_isEven) dX6_wordOf_1 mlX6_77 ckX6_isEven skX6_isEven rfl (m_isEven_t (nI_ge (a := k) (b := 252) h (by decide))) ?_
    refine r_if_eq 14 dX6_wordOf_4 (by decide) (fun c_4 => absurd c_4 (by decide)) (fun c_4 => ?_)
    refine r_aload_n dX6_wordOf_7 rfl rfl ?_
    refine r_getR (N := 35) dX6_wordOf_8 fwX6_7 (by first | rfl | assumption) (Nat.le_of_ble_eq_true rfl) rfl (by first | rfl | assumption) ?_
    refine r_iload_n dX6_wordOf_11 rfl rfl ?_
    refine r_iaload dX6_wordOf_12 (by first | rfl | assumption) (by exact vp_in_nI h (by decide)) ?_
    refine r_ireturn dX6_wordOf_13 rfl (Nat.zero_le _) (Nat.zero_le _) ?_
    rw [hcl, T.1 k h]
    simp only [wd, if_pos h, and_self]
  · have hs : nI k - 252 = nI (k - 252) := pk_sub (a := k) (b := 252) (by omega)
    have hcl2 : (nI (k - 252)).toNatClampNeg = k - 252 := nI_clamp (by omega)
    have ht : M 43 (k - 252) = lw k := by rw [T.2.2 _ (by omega)]; congr 1; omega
    cases e with
    | true =>
      refine r_iload_n dX6_wordOf_0 rfl rfl ?_
      refine gS1 (Y := mX6_isEven) dX6_wordOf_1 mlX6_77 ckX6_isEven skX6_isEven rfl (m_isEven_f (nI_le (a := 252) (b := k) (by omega) (by omega))) ?_
      refine r_if_eq 14 dX6_wordOf_4 (by decide) (fun c_4 => ?_) (fun c_4 => absurd rfl c_4)
      refine r_aload_n dX6_wordOf_14 rfl rfl ?_
      refine r_getR (N := 35) dX6_wordOf_15 fwX6_16 (by first | rfl | assumption) (Nat.le_of_ble_eq_true rfl) rfl (by first | rfl | assumption) ?_
      refine r_iload_n dX6_wordOf_18 rfl rfl ?_
      refine r_sipush 252 dX6_wordOf_19 (by decide) ?_
      refine r_isub dX6_wordOf_22 ?_
      refine r_iaload dX6_wordOf_23 (by first | rfl | assumption) (by rw [hs]; exact vp_in_nI (by omega) (by decide)) ?_
      refine r_istore_n3 dX6_wordOf_24 rfl (Nat.le_of_ble_eq_true rfl) ?_
      refine r_iload_n dX6_wordOf_25 rfl rfl ?_
      refine r_if_eq 37 dX6_wordOf_26 (by decide) (fun c_26 => absurd c_26 (by decide)) (fun c_26 => ?_)
      refine r_sipush 1023 dX6_wordOf_29 (by decide) ?_
      refine r_iload_n dX6_wordOf_32 rfl rfl ?_
      refine r_isub dX6_wordOf_33 ?_
      refine r_goto 38 dX6_wordOf_34 (by decide) ?_
      refine r_ireturn dX6_wordOf_38 rfl (Nat.zero_le _) (Nat.zero_le _) ?_
      rw [hs, hcl2, ht]
      simp only [wd, if_neg h, if_true, and_self]
    | false =>
      refine r_iload_n dX6_wordOf_0 rfl rfl ?_
      refine gS1 (Y := mX6_isEven) dX6_wordOf_1 mlX6_77 ckX6_isEven skX6_isEven rfl (m_isEven_f (nI_le (a := 252) (b := k) (by omega) (by omega))) ?_
      refine r_if_eq 14 dX6_wordOf_4 (by decide) (fun c_4 => ?_) (fun c_4 => absurd rfl c_4)
      refine r_aload_n dX6_wordOf_14 rfl rfl ?_
      refine r_getR (N := 35) dX6_wordOf_15 fwX6_16 (by first | rfl | assumption) (Nat.le_of_ble_eq_true rfl) rfl (by first | rfl | assumption) ?_
      refine r_iload_n dX6_wordOf_18 rfl rfl ?_
      refine r_sipush 252 dX6_wordOf_19 (by decide) ?_
      refine r_isub dX6_wordOf_22 ?_
      refine r_iaload dX6_wordOf_23 (by first | rfl | assumption) (by rw [hs]; exact vp_in_nI (by omega) (by decide)) ?_
      refine r_istore_n3 dX6_wordOf_24 rfl (Nat.le_of_ble_eq_true rfl) ?_
      refine r_iload_n dX6_wordOf_25 rfl rfl ?_
      refine r_if_eq 37 dX6_wordOf_26 (by decide) (fun c_26 => ?_) (fun c_26 => absurd rfl c_26)
      refine r_iload_n dX6_wordOf_37 rfl rfl ?_
      refine r_ireturn dX6_wordOf_38 rfl (Nat.zero_le _) (Nat.zero_le _) ?_
      rw [hs, hcl2, ht]
      simp [wd, if_neg h]
set_option maxHeartbeats 4000000 in
set_option maxRecDepth 100000 in
theorem m_valueOf {M : Mem} (T : TabM M) {w : Nat} (hw : w < 1024) {e : Bool} : Gv mX6_valueOf [.ref 40, .int (nI w), .int (eI e)] M (some (.int (mvf w e))) M := by
  have hcl : (nI w).toNatClampNeg = w := nI_clamp (by omega)
  have ht := T.2.1 w hw
  refine con_of (lv := [some (.ref 40), some (.int (nI w)), some (.int (eI e)), none]) (by decide) rfl (Nat.le_of_ble_eq_true rfl) (by simp [lvle]) ?_
  refine r_aload_n dX6_valueOf_0 rfl rfl ?_
  refine r_getR (N := 35) dX6_valueOf_1 fwX6_13 (by first | rfl | assumption) (Nat.le_of_ble_eq_true rfl) rfl (by first | rfl | assumption) ?_
  refine r_iload_n dX6_valueOf_4 rfl rfl ?_
  refine r_iaload dX6_valueOf_5 (by first | rfl | assumption) (by exact vp_in_nI hw (by decide)) ?_
  refine r_iconst (-1) dX6_valueOf_6 (by decide) ?_
  refine r_icmp_eq 17 dX6_valueOf_7 (by decide) (fun c_7 => ?_) (fun c_7 => ?_)
  · refine r_aload_n dX6_valueOf_17 rfl rfl ?_
    refine r_iload_n dX6_valueOf_18 rfl rfl ?_
    refine r_iload_n dX6_valueOf_19 rfl rfl ?_
    refine gV2 (Y := mX6_unevenOf) (ci := 6) (N := 35) dX6_valueOf_20 mlX6_89 vkX6_unevenOf (by first | rfl | assumption) ⟨by decide, rfl⟩ rfl (m_unevenOf T) ?_
    refine r_istore_n3 dX6_valueOf_23 rfl (Nat.le_of_ble_eq_true rfl) ?_
    refine r_iload_n dX6_valueOf_24 rfl rfl ?_
    refine r_iconst (-1) dX6_valueOf_25 (by decide) ?_
    refine r_icmp_ne 33 dX6_valueOf_26 (by decide) (fun c_26 => ?_) (fun c_26 => ?_)
    · refine r_sipush 252 dX6_valueOf_33 (by decide) ?_
      refine r_iload_n dX6_valueOf_36 rfl rfl ?_
      refine r_iadd dX6_valueOf_37 ?_
      refine r_ireturn dX6_valueOf_38 rfl (Nat.zero_le _) (Nat.zero_le _) ?_
      rw [hcl, ht] at *
      first | (simp only [mvf, if_neg c_7, and_self]; done) | (simp only [mvf, if_pos c_7, if_neg c_26, and_self]; done) | (simp only [mvf, if_pos c_7, if_pos c_26, and_self]; done)
    · refine r_iconst (-1) dX6_valueOf_29 (by decide) ?_
      refine r_goto 38 dX6_valueOf_30 (by decide) ?_
      refine r_ireturn dX6_valueOf_38 rfl (Nat.zero_le _) (Nat.zero_le _) ?_
      rw [hcl, ht] at *
      first | (simp only [mvf, if_neg c_7, and_self]; done) | (simp only [mvf, if_pos c_7, if_neg c_26, and_self]; done) | (simp only [mvf, if_pos c_7, if_pos c_26, and_self]; done)
  · refine r_aload_n dX6_valueOf_10 rfl rfl ?_
    refine r_getR (N := 35) dX6_valueOf_11 fwX6_13 (by first | rfl | assumption) (Nat.le_of_ble_eq_true rfl) rfl (by first | rfl | assumption) ?_
    refine r_iload_n dX6_valueOf_14 rfl rfl ?_
    refine r_iaload dX6_valueOf_15 (by first | rfl | assumption) (by exact vp_in_nI hw (by decide)) ?_
    refine r_ireturn dX6_valueOf_16 rfl (Nat.zero_le _) (Nat.zero_le _) ?_
    rw [hcl, ht] at *
    first | (simp only [mvf, if_neg c_7, and_self]; done) | (simp only [mvf, if_pos c_7, if_neg c_26, and_self]; done) | (simp only [mvf, if_pos c_7, if_pos c_26, and_self]; done)
end
section
def encS (x : Int32) (e : Bool) : Int32 := if x < 0 ∨ 264 ≤ x then -3 else wd x.toNatClampNeg e
def decS (x : Int32) (e : Bool) : Int32 := if x < 0 ∨ 1024 ≤ x then -3 else mvf x.toNatClampNeg e
theorem encS_o {x : Int32} {e : Bool} (h : x < 0 ∨ 264 ≤ x) : encS x e = -3 := if_pos h
theorem encS_i {k : Nat} {e : Bool} (h : k < 264) : encS (nI k) e = wd k e := by
  unfold encS
  rw [if_neg, nI_clamp (by omega)]
  rintro (q | q)
  · exact nI_pos (by omega) q
  · exact nI_ge (a := k) (b := 264) h (by decide) q
theorem decS_o {x : Int32} {e : Bool} (h : x < 0 ∨ 1024 ≤ x) : decS x e = -3 := if_pos h
theorem decS_i {k : Nat} {e : Bool} (h : k < 1024) : decS (nI k) e = mvf k e := by
  unfold decS
  rw [if_neg, nI_clamp (by omega)]
  rintro (q | q)
  · exact nI_pos (by omega) q
  · exact nI_ge (a := k) (b := 1024) h (by decide) q
theorem ix3 (x : Int32) (n : Nat) (hn : n < 2 ^ 31) : (x < 0 ∨ nI n ≤ x) ∨ ∃ j : Nat, j < n ∧ x = nI j := by
  rcases pk_ix x hn with h | h | h
  · exact Or.inl (Or.inl h)
  · exact Or.inl (Or.inr h)
  · exact Or.inr h
theorem nlt_le {a b : Int32} (h : ¬ a < b) : b ≤ a := by rw [i_lt] at h; rw [i_le]; omega
theorem nle_lt {a b : Int32} (h : ¬ a ≤ b) : b < a := by rw [i_le] at h; rw [i_lt]; omega
theorem le_nlt {a b : Int32} (h : a ≤ b) : ¬ b < a := by rw [i_le] at h; rw [i_lt]; omega
theorem lt_nle {a b : Int32} (h : a < b) : ¬ b ≤ a := by rw [i_lt] at h; rw [i_le]; omega
theorem neg_up {x : Int32} {b : Int32} (h : x < 0) (hb : 0 ≤ b) : x < b := by rw [i_lt] at *; rw [i_le] at hb; rw [i_0] at *; omega
set_option maxHeartbeats 4000000 in
set_option maxRecDepth 100000 in
theorem x_wordOf {M : Mem} (T : TabC M) {x : Int32} {e : Bool} : Gv mX1_wordOf [.ref 1, .int x, .int (eI e)] M (some (.int (encS x e))) M := by
  refine con_of (lv := [some (.ref 1), some (.int x), some (.int (eI e)), none]) (by decide) rfl (Nat.le_of_ble_eq_true rfl) (by simp [lvle]) ?_
  rcases ix3 x 264 (by decide) with h | ⟨k, hk, rfl⟩
  · rw [encS_o h]
    refine r_iload_n dX1_wordOf_0 rfl rfl ?_
    refine r_if_lt 11 dX1_wordOf_1 (by decide) (fun c_1 => ?_) (fun c_1 => ?_)
    · refine r_bipush (-3) dX1_wordOf_11 (by decide) ?_
      refine r_ireturn dX1_wordOf_13 rfl (Nat.zero_le _) (Nat.zero_le _) ?_
      exact ⟨rfl, rfl⟩
    · refine r_iload_n dX1_wordOf_4 rfl rfl ?_
      refine r_sipush 264 dX1_wordOf_5 (by decide) ?_
      refine r_icmp_lt 14 dX1_wordOf_8 (by decide) (fun c_8 => absurd h (fun q => q.elim c_1 (lt_nle c_8))) (fun c_8 => ?_)
      refine r_bipush (-3) dX1_wordOf_11 (by decide) ?_
      refine r_ireturn dX1_wordOf_13 rfl (Nat.zero_le _) (Nat.zero_le _) ?_
      exact ⟨rfl, rfl⟩
  · rw [encS_i hk]
    have hcl : (nI k).toNatClampNeg = k := nI_clamp (by omega)
    have ht := T.1 k hk
    have h1 : ¬ nI k < 0 := nI_pos (by omega)
    have h2 : nI k < 264 := nI_lt (a := k) (b := 264) hk (by decide)
    obtain ⟨wa, wb⟩ := wd_tab k hk
    by_cases h : k < 252
    · have h3 : nI k < 252 := nI_lt (a := k) (b := 252) h (by decide)
      obtain ⟨wt, wf⟩ := wa h
      refine r_iload_n dX1_wordOf_0 rfl rfl ?_
      refine r_if_lt 11 dX1_wordOf_1 (by decide) (fun c_1 => absurd c_1 h1) (fun c_1 => ?_)
      refine r_iload_n dX1_wordOf_4 rfl rfl ?_
      refine r_sipush 264 dX1_wordOf_5 (by decide) ?_
      refine r_icmp_lt 14 dX1_wordOf_8 (by decide) (fun c_8 => ?_) (fun c_8 => absurd h2 c_8)
      refine r_aload_n dX1_wordOf_14 rfl rfl ?_
      refine r_getR (N := 2) dX1_wordOf_15 fwX1_9 (by first | rfl | assumption) (Nat.le_of_ble_eq_true rfl) rfl (by first | rfl | assumption) ?_
      refine r_iload_n dX1_wordOf_18 rfl rfl ?_
      refine r_iaload dX1_wordOf_19 (by first | rfl | assumption) (by exact vp_in_nI hk (by decide)) ?_
      refine r_istore_n3 dX1_wordOf_20 rfl (Nat.le_of_ble_eq_true rfl) ?_
      refine r_iload_n dX1_wordOf_21 rfl rfl ?_
      refine r_if_eq 40 dX1_wordOf_22 (by decide) (fun c_22 => ?_) (fun c_22 => ?_)
      · refine r_iload_n dX1_wordOf_40 rfl rfl ?_
        refine r_ireturn dX1_wordOf_41 rfl (Nat.zero_le _) (Nat.zero_le _) ?_
        cases e with
        | true => rw [wt, hcl, ht]; exact ⟨rfl, rfl⟩
        | false => rw [wf, hcl, ht]; exact ⟨rfl, rfl⟩
      · refine r_iload_n dX1_wordOf_25 rfl rfl ?_
        refine r_sipush 252 dX1_wordOf_26 (by decide) ?_
        refine r_icmp_lt 40 dX1_wordOf_29 (by decide) (fun c_29 => ?_) (fun c_29 => absurd h3 c_29)
        refine r_iload_n dX1_wordOf_40 rfl rfl ?_
        refine r_ireturn dX1_wordOf_41 rfl (Nat.zero_le _) (Nat.zero_le _) ?_
        cases e with
        | true => rw [wt, hcl, ht]; exact ⟨rfl, rfl⟩
        | false => rw [wf, hcl, ht]; exact ⟨rfl, rfl⟩
    · have h3 : ¬ nI k < 252 := nI_nlt (a := k) (b := 252) (by omega) (by omega)
      obtain ⟨wt, wf⟩ := wb (by omega)
      cases e with
      | true =>
        refine r_iload_n dX1_wordOf_0 rfl rfl ?_
        refine r_if_lt 11 dX1_wordOf_1 (by decide) (fun c_1 => absurd c_1 h1) (fun c_1 => ?_)
        refine r_iload_n dX1_wordOf_4 rfl rfl ?_
        refine r_sipush 264 dX1_wordOf_5 (by decide) ?_
        refine r_icmp_lt 14 dX1_wordOf_8 (by decide) (fun c_8 => ?_) (fun c_8 => absurd h2 c_8)
        refine r_aload_n dX1_wordOf_14 rfl rfl ?_
        refine r_getR (N := 2) dX1_wordOf_15 fwX1_9 (by first | rfl | assumption) (Nat.le_of_ble_eq_true rfl) rfl (by first | rfl | assumption) ?_
        refine r_iload_n dX1_wordOf_18 rfl rfl ?_
        refine r_iaload dX1_wordOf_19 (by first | rfl | assumption) (by exact vp_in_nI hk (by decide)) ?_
        refine r_istore_n3 dX1_wordOf_20 rfl (Nat.le_of_ble_eq_true rfl) ?_
        refine r_iload_n dX1_wordOf_21 rfl rfl ?_
        refine r_if_eq 40 dX1_wordOf_22 (by decide) (fun c_22 => absurd c_22 (by decide)) (fun c_22 => ?_)
        refine r_iload_n dX1_wordOf_25 rfl rfl ?_
        refine r_sipush 252 dX1_wordOf_26 (by decide) ?_
        refine r_icmp_lt 40 dX1_wordOf_29 (by decide) (fun c_29 => absurd c_29 h3) (fun c_29 => ?_)
        refine r_sipush 1023 dX1_wordOf_32 (by decide) ?_
        refine r_iload_n dX1_wordOf_35 rfl rfl ?_
        refine r_ixor dX1_wordOf_36 ?_
        refine r_goto 41 dX1_wordOf_37 (by decide) ?_
        refine r_ireturn dX1_wordOf_41 rfl (Nat.zero_le _) (Nat.zero_le _) ?_
        rw [wt, hcl, ht]
        exact ⟨rfl, rfl⟩
      | false =>
        refine r_iload_n dX1_wordOf_0 rfl rfl ?_
        refine r_if_lt 11 dX1_wordOf_1 (by decide) (fun c_1 => absurd c_1 h1) (fun c_1 => ?_)
        refine r_iload_n dX1_wordOf_4 rfl rfl ?_
        refine r_sipush 264 dX1_wordOf_5 (by decide) ?_
        refine r_icmp_lt 14 dX1_wordOf_8 (by decide) (fun c_8 => ?_) (fun c_8 => absurd h2 c_8)
        refine r_aload_n dX1_wordOf_14 rfl rfl ?_
        refine r_getR (N := 2) dX1_wordOf_15 fwX1_9 (by first | rfl | assumption) (Nat.le_of_ble_eq_true rfl) rfl (by first | rfl | assumption) ?_
        refine r_iload_n dX1_wordOf_18 rfl rfl ?_
        refine r_iaload dX1_wordOf_19 (by first | rfl | assumption) (by exact vp_in_nI hk (by decide)) ?_
        refine r_istore_n3 dX1_wordOf_20 rfl (Nat.le_of_ble_eq_true rfl) ?_
        refine r_iload_n dX1_wordOf_21 rfl rfl ?_
        refine r_if_eq 40 dX1_wordOf_22 (by decide) (fun c_22 => ?_) (fun c_22 => absurd rfl c_22)
        refine r_iload_n dX1_wordOf_40 rfl rfl ?_
        refine r_ireturn dX1_wordOf_41 rfl (Nat.zero_le _) (Nat.zero_le _) ?_
        rw [wf, hcl, ht]
        exact ⟨rfl, rfl⟩
set_option maxHeartbeats 4000000 in
set_option maxRecDepth 100000 in
theorem x_encode {M : Mem} (T : TabC M) {x : Int32} {e : Bool} : Gv mX5_encode [.ref 0, .int x, .int (eI e)] M (some (.int (encS x e))) M := by
  refine con_of (lv := [some (.ref 0), some (.int x), some (.int (eI e))]) (by decide) rfl (Nat.le_of_ble_eq_true rfl) (by simp [lvle]) ?_
  refine r_aload_n dX5_encode_0 rfl rfl ?_
  refine r_getR (N := 10) dX5_encode_1 fwX5_10 (by first | rfl | assumption) (Nat.le_of_ble_eq_true rfl) rfl (by first | rfl | assumption) ?_
  refine r_iload_n dX5_encode_4 rfl rfl ?_
  refine r_iload_n dX5_encode_5 rfl rfl ?_
  refine gV2 (Y := mX1_wordOf) (ci := 1) (N := 2) dX5_encode_6 mlX5_59 vkX1_wordOf (by first | rfl | assumption) ⟨by decide, rfl⟩ rfl (x_wordOf T) ?_
  refine r_ireturn dX5_encode_9 rfl (Nat.zero_le _) (Nat.zero_le _) ?_
  exact ⟨rfl, rfl⟩
set_option maxHeartbeats 4000000 in
set_option maxRecDepth 100000 in
theorem m_encode {M : Mem} (T : TabM M) {x : Int32} {e : Bool} : Gv mX6_encode [.ref 40, .int x, .int (eI e)] M (some (.int (encS x e))) M := by
  refine con_of (lv := [some (.ref 40), some (.int x), some (.int (eI e))]) (by decide) rfl (Nat.le_of_ble_eq_true rfl) (by simp [lvle]) ?_
  rcases ix3 x 264 (by decide) with h | ⟨k, hk, rfl⟩
  · rw [encS_o h]
    have hf : x < 0 ∨ 263 < x := h.imp id (fun q => by rw [i_le] at q; rw [i_lt]; exact Int.lt_of_lt_of_le (by decide) q)
    refine r_iload_n dX6_encode_0 rfl rfl ?_
    refine r_iconst 0 dX6_encode_1 (by decide) ?_
    refine r_sipush 263 dX6_encode_2 (by decide) ?_
    refine gS3 (Y := mX6_in) dX6_encode_5 mlX6_81 ckX6_in skX6_in rfl (m_in_f hf) ?_
    refine r_if_eq 20 dX6_encode_8 (by decide) (fun c_8 => ?_) (fun c_8 => absurd rfl c_8)
    refine r_bipush (-3) dX6_encode_20 (by decide) ?_
    refine r_ireturn dX6_encode_22 rfl (Nat.zero_le _) (Nat.zero_le _) ?_
    exact ⟨rfl, rfl⟩
  · rw [encS_i hk]
    refine r_iload_n dX6_encode_0 rfl rfl ?_
    refine r_iconst 0 dX6_encode_1 (by decide) ?_
    refine r_sipush 263 dX6_encode_2 (by decide) ?_
    refine gS3 (Y := mX6_in) dX6_encode_5 mlX6_81 ckX6_in skX6_in rfl (m_in_t (nI_pos (by omega)) (nI_nlt (a := 263) (b := k) (by omega) (by omega))) ?_
    refine r_if_eq 20 dX6_encode_8 (by decide) (fun c_8 => absurd c_8 (by decide)) (fun c_8 => ?_)
    refine r_aload_n dX6_encode_11 rfl rfl ?_
    refine r_iload_n dX6_encode_12 rfl rfl ?_
    refine r_iload_n dX6_encode_13 rfl rfl ?_
    refine gV2 (Y := mX6_wordOf) (ci := 6) (N := 35) dX6_encode_14 mlX6_85 vkX6_wordOf (by first | rfl | assumption) ⟨by decide, rfl⟩ rfl (m_wordOf T hk) ?_
    refine r_goto 22 dX6_encode_17 (by decide) ?_
    refine r_ireturn dX6_encode_22 rfl (Nat.zero_le _) (Nat.zero_le _) ?_
    exact ⟨rfl, rfl⟩
set_option maxHeartbeats 4000000 in
set_option maxRecDepth 100000 in
theorem x_valueOf {M : Mem} (T : TabC M) {w : Nat} (hw : w < 1024) {e : Bool} : Gv mX1_valueOf [.ref 1, .int (nI w), .int (eI e)] M (some (.int (cvf w e))) M := by
  have hcl : (nI w).toNatClampNeg = w := nI_clamp (by omega)
  have ht := T.2 w hw
  have h1 : ¬ nI w < 0 := nI_pos (by omega)
  have h2 : nI w < 1024 := nI_lt (a := w) (b := 1024) hw (by decide)
  have hb := j_bitCount (M := M) (x := nI w)
  rw [bc_tab w hw] at hb
  refine con_of (lv := [some (.ref 1), some (.int (nI w)), some (.int (eI e)), none, none]) (by decide) rfl (Nat.le_of_ble_eq_true rfl) (by simp [lvle]) ?_
  refine r_iload_n dX1_valueOf_0 rfl rfl ?_
  refine r_if_lt 11 dX1_valueOf_1 (by decide) (fun c_1 => absurd c_1 h1) (fun c_1 => ?_)
  refine r_iload_n dX1_valueOf_4 rfl rfl ?_
  refine r_sipush 1024 dX1_valueOf_5 (by decide) ?_
  refine r_icmp_lt 13 dX1_valueOf_8 (by decide) (fun c_8 => ?_) (fun c_8 => absurd h2 c_8)
  refine r_aload_n dX1_valueOf_13 rfl rfl ?_
  refine r_getR (N := 2) dX1_valueOf_14 fwX1_15 (by first | rfl | assumption) (Nat.le_of_ble_eq_true rfl) rfl (by first | rfl | assumption) ?_
  refine r_iload_n dX1_valueOf_17 rfl rfl ?_
  refine r_iaload dX1_valueOf_18 (by first | rfl | assumption) (by exact vp_in_nI hw (by decide)) ?_
  refine r_istore_n3 dX1_valueOf_19 rfl (Nat.le_of_ble_eq_true rfl) ?_
  refine r_iload_n dX1_valueOf_20 rfl rfl ?_
  refine gS1 (Y := mJ6_bitCount_0f7a4) dX1_valueOf_21 mlX1_18 ckJ6_bitCount_0f7a4 skJ6_bitCount_0f7a4 rfl hb ?_
  refine r_iconst 5 dX1_valueOf_24 (by decide) ?_
  refine r_icmp_ge 32 dX1_valueOf_25 (by decide) (fun c_25 => ?_) (fun c_25 => ?_)
  · refine r_iconst 0 dX1_valueOf_32 (by decide) ?_
    refine r_istore_4 dX1_valueOf_33 rfl (Nat.le_of_ble_eq_true rfl) ?_
    refine r_iload_n dX1_valueOf_35 rfl rfl ?_
    refine r_sipush 252 dX1_valueOf_36 (by decide) ?_
    refine r_icmp_lt 53 dX1_valueOf_39 (by decide) (fun c_39 => ?_) (fun c_39 => ?_)
    · refine r_iload_n dX1_valueOf_53 rfl rfl ?_
      refine r_ireturn dX1_valueOf_54 rfl (Nat.zero_le _) (Nat.zero_le _) ?_
      rw [hcl, ht] at *
      unfold cvf
      first | rw [if_pos c_39] | rw [if_neg c_39, if_neg (le_nlt c_25), if_pos c_45] | rw [if_neg c_39, if_neg (le_nlt c_25), if_neg c_45] | rw [if_neg c_39, if_pos (nle_lt c_25), if_pos c_45] | rw [if_neg c_39, if_pos (nle_lt c_25), if_neg c_45]
      exact ⟨rfl, rfl⟩
    · refine r_iload dX1_valueOf_42 rfl ?_
      refine r_iload_n dX1_valueOf_44 rfl rfl ?_
      refine r_icmp_eq 53 dX1_valueOf_45 (by decide) (fun c_45 => ?_) (fun c_45 => ?_)
      · refine r_iload_n dX1_valueOf_53 rfl rfl ?_
        refine r_ireturn dX1_valueOf_54 rfl (Nat.zero_le _) (Nat.zero_le _) ?_
        rw [hcl, ht] at *
        unfold cvf
        first | rw [if_pos c_39] | rw [if_neg c_39, if_neg (le_nlt c_25), if_pos c_45] | rw [if_neg c_39, if_neg (le_nlt c_25), if_neg c_45] | rw [if_neg c_39, if_pos (nle_lt c_25), if_pos c_45] | rw [if_neg c_39, if_pos (nle_lt c_25), if_neg c_45]
        exact ⟨rfl, rfl⟩
      · refine r_bipush (-2) dX1_valueOf_48 (by decide) ?_
        refine r_goto 54 dX1_valueOf_50 (by decide) ?_
        refine r_ireturn dX1_valueOf_54 rfl (Nat.zero_le _) (Nat.zero_le _) ?_
        rw [hcl, ht] at *
        unfold cvf
        first | rw [if_pos c_39] | rw [if_neg c_39, if_neg (le_nlt c_25), if_pos c_45] | rw [if_neg c_39, if_neg (le_nlt c_25), if_neg c_45] | rw [if_neg c_39, if_pos (nle_lt c_25), if_pos c_45] | rw [if_neg c_39, if_pos (nle_lt c_25), if_neg c_45]
        exact ⟨rfl, rfl⟩
  · refine r_iconst 1 dX1_valueOf_28 (by decide) ?_
    refine r_goto 33 dX1_valueOf_29 (by decide) ?_
    refine r_istore_4 dX1_valueOf_33 rfl (Nat.le_of_ble_eq_true rfl) ?_
    refine r_iload_n dX1_valueOf_35 rfl rfl ?_
    refine r_sipush 252 dX1_valueOf_36 (by decide) ?_
    refine r_icmp_lt 53 dX1_valueOf_39 (by decide) (fun c_39 => ?_) (fun c_39 => ?_)
    · refine r_iload_n dX1_valueOf_53 rfl rfl ?_
      refine r_ireturn dX1_valueOf_54 rfl (Nat.zero_le _) (Nat.zero_le _) ?_
      rw [hcl, ht] at *
      unfold cvf
      first | rw [if_pos c_39] | rw [if_neg c_39, if_neg (le_nlt c_25), if_pos c_45] | rw [if_neg c_39, if_neg (le_nlt c_25), if_neg c_45] | rw [if_neg c_39, if_pos (nle_lt c_25), if_pos c_45] | rw [if_neg c_39, if_pos (nle_lt c_25), if_neg c_45]
      exact ⟨rfl, rfl⟩
    · refine r_iload dX1_valueOf_42 rfl ?_
      refine r_iload_n dX1_valueOf_44 rfl rfl ?_
      refine r_icmp_eq 53 dX1_valueOf_45 (by decide) (fun c_45 => ?_) (fun c_45 => ?_)
      · refine r_iload_n dX1_valueOf_53 rfl rfl ?_
        refine r_ireturn dX1_valueOf_54 rfl (Nat.zero_le _) (Nat.zero_le _) ?_
        rw [hcl, ht] at *
        unfold cvf
        first | rw [if_pos c_39] | rw [if_neg c_39, if_neg (le_nlt c_25), if_pos c_45] | rw [if_neg c_39, if_neg (le_nlt c_25), if_neg c_45] | rw [if_neg c_39, if_pos (nle_lt c_25), if_pos c_45] | rw [if_neg c_39, if_pos (nle_lt c_25), if_neg c_45]
        exact ⟨rfl, rfl⟩
      · refine r_bipush (-2) dX1_valueOf_48 (by decide) ?_
        refine r_goto 54 dX1_valueOf_50 (by decide) ?_
        refine r_ireturn dX1_valueOf_54 rfl (Nat.zero_le _) (Nat.zero_le _) ?_
        rw [hcl, ht] at *
        unfold cvf
        first | rw [if_pos c_39] | rw [if_neg c_39, if_neg (le_nlt c_25), if_pos c_45] | rw [if_neg c_39, if_neg (le_nlt c_25), if_neg c_45] | rw [if_neg c_39, if_pos (nle_lt c_25), if_pos c_45] | rw [if_neg c_39, if_pos (nle_lt c_25), if_neg c_45]
        exact ⟨rfl, rfl⟩
theorem nI_ne_m1 {i : Nat} (h : i < 2 ^ 31) : ¬ nI i = -1 := fun q => absurd (q ▸ nI_pos (n := i) h) (by decide)
theorem cvf_lo {w : Nat} {e : Bool} {x : Int32} (h : vl w = x) (hx : x < 252) : cvf w e = x := by
  unfold cvf
  rw [h, if_pos hx]
theorem cvf_hi {w : Nat} {e : Bool} {x : Int32} (h : vl w = x) (hx : ¬ x < 252) : cvf w e = if (if nI (popc w) < 5 then (1 : Int32) else 0) = eI e then x else -2 := by
  unfold cvf
  rw [h, if_neg hx]
theorem mvf_e {w : Nat} {e : Bool} {x : Int32} (h : en w = x) (hx : ¬ x = -1) : mvf w e = x := by
  unfold mvf
  rw [h, if_neg hx]
theorem mvf_u {w : Nat} {e : Bool} {k : Nat} (h : en w = -1) (hu : ufn w e = nI k) (hk : k < 2 ^ 31) : mvf w e = nI (252 + k) := by
  unfold mvf
  rw [h, if_pos rfl, hu, if_neg (nI_ne_m1 hk)]
  exact nI_add 252 k
theorem mvf_n {w : Nat} {e : Bool} (h : en w = -1) (hu : ufn w e = -1) : mvf w e = -1 := by
  unfold mvf
  rw [h, if_pos rfl, hu, if_pos rfl]
/-- what class and model tell of a word -/
theorem c_kinds {w : Nat} (hw : w < 1024) (e : Bool) : (∃ i, i < 252 ∧ en w = nI i ∧ cvf w e = nI i ∧ mvf w e = nI i) ∨ (en w = -1 ∧ ufn w true = -1 ∧ ufn w false = -1 ∧ cvf w e = -1 ∧ mvf w e = -1) ∨ (∃ k, k < 12 ∧ en w = -1 ∧ ufn w e = nI k ∧ cvf w e = nI (252 + k) ∧ mvf w e = nI (252 + k)) ∨ (∃ k, k < 12 ∧ en w = -1 ∧ ufn w e = -1 ∧ ufn w (!e) = nI k ∧ cvf w e = -2 ∧ mvf w e = -1) := by
  rcases w_kinds hw with ⟨i, hi, h1, h2, h3, h4⟩ | ⟨h1, h2, h3, h4⟩ | ⟨k, hk, h1, h2, h3, h4, h5⟩ | ⟨k, hk, h1, h2, h3, h4, h5⟩
  · exact Or.inl ⟨i, hi, h1, cvf_lo h2 (nI_lt (a := i) (b := 252) hi (by decide)), mvf_e h1 (nI_ne_m1 (by omega))⟩
  · refine Or.inr (Or.inl ⟨h1, h3, h4, cvf_lo h2 (by decide), mvf_n h1 ?_⟩)
    cases e
    · exact h4
    · exact h3
  · have e1 : ¬ nI (252 + k) < 252 := nI_nlt (a := 252 + k) (b := 252) (by omega) (by omega)
    cases e with
    | true => exact Or.inr (Or.inr (Or.inr ⟨k, hk, h1, h4, h3, by rw [cvf_hi h2 e1, h5]; exact if_neg (by decide), mvf_n h1 h4⟩))
    | false => exact Or.inr (Or.inr (Or.inl ⟨k, hk, h1, h3, by rw [cvf_hi h2 e1, h5]; exact if_pos (by decide), mvf_u h1 h3 (by omega)⟩))
  · have e1 : ¬ nI (252 + k) < 252 := nI_nlt (a := 252 + k) (b := 252) (by omega) (by omega)
    cases e with
    | false => exact Or.inr (Or.inr (Or.inr ⟨k, hk, h1, h4, h3, by rw [cvf_hi h2 e1, h5]; exact if_neg (by decide), mvf_n h1 h4⟩))
    | true => exact Or.inr (Or.inr (Or.inl ⟨k, hk, h1, h3, by rw [cvf_hi h2 e1, h5]; exact if_pos (by decide), mvf_u h1 h3 (by omega)⟩))
theorem dv_tab {w : Nat} (hw : w < 1024) (e : Bool) : (if 0 ≤ cvf w e then cvf w e else -1) = mvf w e := by
  rcases c_kinds hw e with ⟨i, hi, -, h2, h3⟩ | ⟨-, -, -, h2, h3⟩ | ⟨k, hk, -, -, h2, h3⟩ | ⟨k, hk, -, -, -, h2, h3⟩
  · rw [h2, h3, if_pos (nI_pos' (by omega))]
  · rw [h2, h3, if_neg (by decide)]
  · rw [h2, h3, if_pos (nI_pos' (by omega))]
  · rw [h2, h3, if_neg (by decide)]
set_option maxHeartbeats 4000000 in
set_option maxRecDepth 100000 in
theorem x_decode {M : Mem} (T : TabC M) {x : Int32} {e : Bool} : Gv mX5_decode [.ref 0, .int x, .int (eI e)] M (some (.int (decS x e))) M := by
  refine con_of (lv := [some (.ref 0), some (.int x), some (.int (eI e)), none]) (by decide) rfl (Nat.le_of_ble_eq_true rfl) (by simp [lvle]) ?_
  rcases ix3 x 1024 (by decide) with h | ⟨k, hk, rfl⟩
  · rw [decS_o h]
    refine r_iload_n dX5_decode_0 rfl rfl ?_
    refine r_if_lt 11 dX5_decode_1 (by decide) (fun c_1 => ?_) (fun c_1 => ?_)
    · refine r_bipush (-3) dX5_decode_11 (by decide) ?_
      refine r_ireturn dX5_decode_13 rfl (Nat.zero_le _) (Nat.zero_le _) ?_
      exact ⟨rfl, rfl⟩
    · refine r_iload_n dX5_decode_4 rfl rfl ?_
      refine r_sipush 1024 dX5_decode_5 (by decide) ?_
      refine r_icmp_lt 14 dX5_decode_8 (by decide) (fun c_8 => absurd h (fun q => q.elim c_1 (lt_nle c_8))) (fun c_8 => ?_)
      refine r_bipush (-3) dX5_decode_11 (by decide) ?_
      refine r_ireturn dX5_decode_13 rfl (Nat.zero_le _) (Nat.zero_le _) ?_
      exact ⟨rfl, rfl⟩
  · rw [decS_i hk, ← dv_tab hk]
    refine r_iload_n dX5_decode_0 rfl rfl ?_
    refine r_if_lt 11 dX5_decode_1 (by decide) (fun c_1 => absurd c_1 (nI_pos (by omega))) (fun c_1 => ?_)
    refine r_iload_n dX5_decode_4 rfl rfl ?_
    refine r_sipush 1024 dX5_decode_5 (by decide) ?_
    refine r_icmp_lt 14 dX5_decode_8 (by decide) (fun c_8 => ?_) (fun c_8 => absurd (nI_lt (a := k) (b := 1024) hk (by decide)) c_8)
    refine r_aload_n dX5_decode_14 rfl rfl ?_
    refine r_getR (N := 10) dX5_decode_15 fwX5_10 (by first | rfl | assumption) (Nat.le_of_ble_eq_true rfl) rfl (by first | rfl | assumption) ?_
    refine r_iload_n dX5_decode_18 rfl rfl ?_
    refine r_iload_n dX5_decode_19 rfl rfl ?_
    refine gV2 (Y := mX1_valueOf) (ci := 1) (N := 2) dX5_decode_20 mlX5_63 vkX1_valueOf (by first | rfl | assumption) ⟨by decide, rfl⟩ rfl (x_valueOf T hk) ?_
    refine r_istore_n3 dX5_decode_23 rfl (Nat.le_of_ble_eq_true rfl) ?_
    refine r_iload_n dX5_decode_24 rfl rfl ?_
    refine r_if_ge 32 dX5_decode_25 (by decide) (fun c_25 => ?_) (fun c_25 => ?_)
    · refine r_iload_n dX5_decode_32 rfl rfl ?_
      refine r_ireturn dX5_decode_33 rfl (Nat.zero_le _) (Nat.zero_le _) ?_
      first | rw [if_pos c_25] | rw [if_neg c_25]
      exact ⟨rfl, rfl⟩
    · refine r_iconst (-1) dX5_decode_28 (by decide) ?_
      refine r_goto 33 dX5_decode_29 (by decide) ?_
      refine r_ireturn dX5_decode_33 rfl (Nat.zero_le _) (Nat.zero_le _) ?_
      first | rw [if_pos c_25] | rw [if_neg c_25]
      exact ⟨rfl, rfl⟩
set_option maxHeartbeats 4000000 in
set_option maxRecDepth 100000 in
theorem m_decode {M : Mem} (T : TabM M) {x : Int32} {e : Bool} : Gv mX6_decode [.ref 40, .int x, .int (eI e)] M (some (.int (decS x e))) M := by
  refine con_of (lv := [some (.ref 40), some (.int x), some (.int (eI e))]) (by decide) rfl (Nat.le_of_ble_eq_true rfl) (by simp [lvle]) ?_
  rcases ix3 x 1024 (by decide) with h | ⟨k, hk, rfl⟩
  · rw [decS_o h]
    have hf : x < 0 ∨ 1023 < x := h.imp id (fun q => by rw [i_le] at q; rw [i_lt]; exact Int.lt_of_lt_of_le (by decide) q)
    refine r_iload_n dX6_decode_0 rfl rfl ?_
    refine r_iconst 0 dX6_decode_1 (by decide) ?_
    refine r_sipush 1023 dX6_decode_2 (by decide) ?_
    refine gS3 (Y := mX6_in) dX6_decode_5 mlX6_81 ckX6_in skX6_in rfl (m_in_f hf) ?_
    refine r_if_eq 20 dX6_decode_8 (by decide) (fun c_8 => ?_) (fun c_8 => absurd rfl c_8)
    refine r_bipush (-3) dX6_decode_20 (by decide) ?_
    refine r_ireturn dX6_decode_22 rfl (Nat.zero_le _) (Nat.zero_le _) ?_
    exact ⟨rfl, rfl⟩
  · rw [decS_i hk]
    refine r_iload_n dX6_decode_0 rfl rfl ?_
    refine r_iconst 0 dX6_decode_1 (by decide) ?_
    refine r_sipush 1023 dX6_decode_2 (by decide) ?_
    refine gS3 (Y := mX6_in) dX6_decode_5 mlX6_81 ckX6_in skX6_in rfl (m_in_t (nI_pos (by omega)) (nI_nlt (a := 1023) (b := k) (by omega) (by omega))) ?_
    refine r_if_eq 20 dX6_decode_8 (by decide) (fun c_8 => absurd c_8 (by decide)) (fun c_8 => ?_)
    refine r_aload_n dX6_decode_11 rfl rfl ?_
    refine r_iload_n dX6_decode_12 rfl rfl ?_
    refine r_iload_n dX6_decode_13 rfl rfl ?_
    refine gV2 (Y := mX6_valueOf) (ci := 6) (N := 35) dX6_decode_14 mlX6_92 vkX6_valueOf (by first | rfl | assumption) ⟨by decide, rfl⟩ rfl (m_valueOf T hk) ?_
    refine r_goto 22 dX6_decode_17 (by decide) ?_
    refine r_ireturn dX6_decode_22 rfl (Nat.zero_le _) (Nat.zero_le _) ?_
    exact ⟨rfl, rfl⟩
set_option maxHeartbeats 4000000 in
set_option maxRecDepth 100000 in
theorem m_crc_lp {M : Mem} {a b : Int32} : ∀ (m : Nat) (c : Int32), m ≤ 8 → WP mX6_checkByte 5 [some (.int a), some (.int b), some (.int c), some (.int (nI m + (-1))), none] [] 0 0 (shp, rfs, M) (fun r1 h1 => r1 = some (.int (crcBits b m c)) ∧ h1 = (shp, rfs, M)) := by
  intro m
  induction m with
  | zero =>
    intro c _
    refine r_iload_n dX6_checkByte_5 rfl rfl ?_
    refine r_if_lt 46 dX6_checkByte_6 (by decide) (fun c_6 => ?_) (fun c_6 => absurd m1_lt c_6)
    refine r_iload_n dX6_checkByte_46 rfl rfl ?_
    refine r_ireturn dX6_checkByte_47 rfl (Nat.zero_le _) (Nat.zero_le _) ?_
    exact ⟨rfl, rfl⟩
  | succ m ih =>
    intro c hm
    rw [m1_nI]
    have hsh := sh_and1 b (i := m) (by omega)
    refine r_iload_n dX6_checkByte_5 rfl rfl ?_
    refine r_if_lt 46 dX6_checkByte_6 (by decide) (fun c_6 => absurd c_6 (nI_nneg (by omega))) (fun c_6 => ?_)
    refine r_iload_n dX6_checkByte_9 rfl rfl ?_
    refine r_bipush 31 dX6_checkByte_10 (by decide) ?_
    refine r_iushr dX6_checkByte_12 ?_
    refine r_iload_n dX6_checkByte_13 rfl rfl ?_
    refine r_iload_n dX6_checkByte_14 rfl rfl ?_
    refine r_ishr dX6_checkByte_15 ?_
    refine r_iconst 1 dX6_checkByte_16 (by decide) ?_
    refine r_iand dX6_checkByte_17 ?_
    refine r_ixor dX6_checkByte_18 ?_
    refine r_istore_4 dX6_checkByte_19 rfl (Nat.le_of_ble_eq_true rfl) ?_
    refine r_iload_n dX6_checkByte_21 rfl rfl ?_
    refine r_iconst 1 dX6_checkByte_22 (by decide) ?_
    refine r_ishl dX6_checkByte_23 ?_
    refine r_istore_n2 dX6_checkByte_24 rfl (Nat.le_of_ble_eq_true rfl) ?_
    refine r_iload dX6_checkByte_25 rfl ?_
    refine r_iconst 1 dX6_checkByte_27 (by decide) ?_
    refine r_icmp_ne 38 dX6_checkByte_28 (by decide) (fun c_28 => ?_) (fun c_28 => ?_)
    · refine r_iload_n dX6_checkByte_38 rfl rfl ?_
      refine r_istore_n2 dX6_checkByte_39 rfl (Nat.le_of_ble_eq_true rfl) ?_
      refine r_iinc_3 (_ + (-1)) dX6_checkByte_40 rfl (Nat.le_of_ble_eq_true rfl) rfl ?_
      refine r_goto 5 dX6_checkByte_43 (by decide) ?_
      rw [hsh] at c_28
      have hs := (show crcStep c (us b (nI m) &&& 1) = _ by first | exact if_pos c_28 | exact if_neg c_28)
      simp only [crcBits]
      rw [hs]
      exact r_weak (by simp [lvle] <;> (repeat' apply And.intro) <;> first | rfl | decide) (ih _ (by omega))
    · refine r_iload_n dX6_checkByte_31 rfl rfl ?_
      refine r_ldc 79764919 dX6_checkByte_32 cnX6_99 ?_
      refine r_ixor dX6_checkByte_34 ?_
      refine r_goto 39 dX6_checkByte_35 (by decide) ?_
      refine r_istore_n2 dX6_checkByte_39 rfl (Nat.le_of_ble_eq_true rfl) ?_
      refine r_iinc_3 (_ + (-1)) dX6_checkByte_40 rfl (Nat.le_of_ble_eq_true rfl) rfl ?_
      refine r_goto 5 dX6_checkByte_43 (by decide) ?_
      rw [hsh] at c_28
      have hs := (show crcStep c (us b (nI m) &&& 1) = _ by first | exact if_pos c_28 | exact if_neg c_28)
      simp only [crcBits]
      rw [hs]
      exact r_weak (by simp [lvle] <;> (repeat' apply And.intro) <;> first | rfl | decide) (ih _ (by omega))
set_option maxHeartbeats 4000000 in
set_option maxRecDepth 100000 in
theorem m_checkByte {M : Mem} {a b : Int32} : Gv mX6_checkByte [.int a, .int b] M (some (.int (crcByte a b))) M := by
  refine con_of (lv := [some (.int a), some (.int b), none, none, none]) (by decide) rfl (Nat.le_of_ble_eq_true rfl) (by simp [lvle]) ?_
  refine r_iload_n dX6_checkByte_0 rfl rfl ?_
  refine r_istore_n2 dX6_checkByte_1 rfl (Nat.le_of_ble_eq_true rfl) ?_
  refine r_bipush 7 dX6_checkByte_2 (by decide) ?_
  refine r_istore_n3 dX6_checkByte_4 rfl (Nat.le_of_ble_eq_true rfl) ?_
  exact m_crc_lp 8 a (Nat.le_refl _)
set_option maxHeartbeats 4000000 in
set_option maxRecDepth 100000 in
theorem m_checkOf_lp {M : Mem} {r fr n N : Nat} (hs : shp[r]? = some (7, N)) (hN : fr + n ≤ N) (hN2 : N < 2 ^ 31) : ∀ (d j : Nat), j + d = n → WP mX6_checkOf 6 [some (.ref r), some (.int (nI fr)), some (.int (nI n)), some (.int (crcN (fun q => M r (fr + q)) j)), some (.int (nI j))] [] 0 0 (shp, rfs, M) (fun r1 h1 => r1 = some (.int (crcN (fun q => M r (fr + q)) n)) ∧ h1 = (shp, rfs, M)) := by
  intro d
  induction d with
  | zero =>
    intro j hj
    have hj : j = n := by omega
    subst hj
    refine r_iload dX6_checkOf_6 rfl ?_
    refine r_iload_n dX6_checkOf_8 rfl rfl ?_
    refine r_icmp_ge 29 dX6_checkOf_9 (by decide) (fun c_9 => ?_) (fun c_9 => absurd (nI_le (Nat.le_refl _) (by omega)) c_9)
    refine r_iload_n dX6_checkOf_29 rfl rfl ?_
    refine r_ireturn dX6_checkOf_30 rfl (Nat.zero_le _) (Nat.zero_le _) ?_
    exact ⟨rfl, rfl⟩
  | succ d ih =>
    intro j hj
    have hcl : (nI (fr + j)).toNatClampNeg = fr + j := nI_clamp (by omega)
    have hg := m_checkByte (M := M) (a := crcN (fun q => M r (fr + q)) j) (b := M r (fr + j))
    refine r_iload dX6_checkOf_6 rfl ?_
    refine r_iload_n dX6_checkOf_8 rfl rfl ?_
    refine r_icmp_ge 29 dX6_checkOf_9 (by decide) (fun c_9 => absurd c_9 (nI_ge (by omega) (by omega))) (fun c_9 => ?_)
    refine r_iload_n dX6_checkOf_12 rfl rfl ?_
    refine r_aload_n dX6_checkOf_13 rfl rfl ?_
    refine r_iload_n dX6_checkOf_14 rfl rfl ?_
    refine r_iload dX6_checkOf_15 rfl ?_
    refine r_iadd dX6_checkOf_17 ?_
    rw [nI_add]
    refine r_iaload dX6_checkOf_18 (by first | rfl | assumption) (by exact vp_in_nI (by omega) hN2) ?_
    refine gS2 (Y := mX6_checkByte) dX6_checkOf_19 mlX6_101 ckX6_checkByte skX6_checkByte rfl (by rw [hcl]; exact hg) ?_
    refine r_istore_n3 dX6_checkOf_22 rfl (Nat.le_of_ble_eq_true rfl) ?_
    refine r_iinc_4 (_ + 1) dX6_checkOf_23 rfl (Nat.le_of_ble_eq_true rfl) rfl ?_
    refine r_goto 6 dX6_checkOf_26 (by decide) ?_
    rw [nI_1]
    exact ih (j + 1) (by omega)
set_option maxHeartbeats 4000000 in
set_option maxRecDepth 100000 in
theorem m_checkOf {M : Mem} {r fr n N : Nat} (hs : shp[r]? = some (7, N)) (hN : fr + n ≤ N) (hN2 : N < 2 ^ 31) : Gv mX6_checkOf [.ref r, .int (nI fr), .int (nI n)] M (some (.int (crcN (fun q => M r (fr + q)) n))) M := by
  refine con_of (lv := [some (.ref r), some (.int (nI fr)), some (.int (nI n)), none, none]) (by decide) rfl (Nat.le_of_ble_eq_true rfl) (by simp [lvle]) ?_
  refine r_ldc 1378996274 dX6_checkOf_0 cnX6_100 ?_
  refine r_istore_n3 dX6_checkOf_2 rfl (Nat.le_of_ble_eq_true rfl) ?_
  refine r_iconst 0 dX6_checkOf_3 (by decide) ?_
  refine r_istore_4 dX6_checkOf_4 rfl (Nat.le_of_ble_eq_true rfl) ?_
  exact m_checkOf_lp hs hN hN2 n 0 (by omega)
end
section
def scL : List Nat := [177, 110, 75, 67, 22, 205, 100, 248, 54, 194, 16, 165, 42, 203, 74, 44]
def rsL : List Nat := [65535, 21665, 26510, 27387, 8051, 45686, 23069, 39716, 11128, 47958, 6882, 58128, 15093, 46986, 26235, 16362, 26860]
def sc (i : Nat) : Int32 := nI (scL.getD i 0)
def rS (i : Nat) : Int32 := nI (rsL.getD i 0)
/-- all but some cells, and some slots of others, stay -/
def FrS (cs : List Nat) (ss : List (Nat × Nat)) (M M' : Mem) : Prop := ∀ a k, a ∉ cs → (a, k) ∉ ss → M' a k = M a k
theorem Fr.S {ex : List Nat} {M M' : Mem} (h : Fr ex M M') : FrS ex [] M M' := fun a k q _ => by rw [h a q]
theorem FrS.rf {cs : List Nat} {ss : List (Nat × Nat)} {M : Mem} : FrS cs ss M M := fun _ _ _ _ => rfl
theorem FrS.mono {cs cs' : List Nat} {ss ss' : List (Nat × Nat)} {M M' : Mem} (h : FrS cs ss M M') (h1 : ∀ a ∈ cs, a ∈ cs') (h2 : ∀ q ∈ ss, q ∈ ss' ∨ q.1 ∈ cs') : FrS cs' ss' M M' := fun a k ha hk => h a k (fun q => ha (h1 a q)) (fun q => (h2 _ q).elim hk ha)
theorem FrS.tr {cs : List Nat} {ss : List (Nat × Nat)} {M M' M'' : Mem} (h1 : FrS cs ss M M') (h2 : FrS cs ss M' M'') : FrS cs ss M M'' := fun a k ha hk => (h2 a k ha hk).trans (h1 a k ha hk)
theorem FrS.upc {cs : List Nat} {ss : List (Nat × Nat)} {M M' : Mem} {a k : Nat} {x : Int32} (h : FrS cs ss M M') (ha : a ∈ cs) : FrS cs ss M (upd2 M' a k x) := fun b j hb hj => by
  have hne : b ≠ a := fun q => hb (by rw [q]; exact ha)
  rw [u_nn hne]
  exact h b j hb hj
theorem FrS.ups {cs : List Nat} {ss : List (Nat × Nat)} {M M' : Mem} {a k : Nat} {x : Int32} (h : FrS cs ss M M') (ha : (a, k) ∈ ss) : FrS cs ss M (upd2 M' a k x) := fun b j hb hj => by
  by_cases hba : b = a
  · subst hba
    have hne : j ≠ k := fun q => hj (by rw [q]; exact ha)
    rw [u_sn hne]
    exact h b j hb hj
  · rw [u_nn hba]
    exact h b j hb hj
theorem FrS.row {cs : List Nat} {ss : List (Nat × Nat)} {M M' : Mem} (h : FrS cs ss M M') {a : Nat} (ha : a ∉ cs) (hs : ∀ k, (a, k) ∉ ss) : M' a = M a := funext fun k => h a k ha (hs k)
theorem TabC.frS {M M' : Mem} {cs : List Nat} {ss : List (Nat × Nat)} (h : TabC M) (F : FrS cs ss M M') (h2 : 2 ∉ cs ∧ 3 ∉ cs) (h3 : ∀ q ∈ ss, q.1 ≠ 2 ∧ q.1 ≠ 3) : TabC M' := ⟨fun k q => by rw [F 2 k h2.1 (fun z => (h3 _ z).1 rfl)]; exact h.1 k q, fun k q => by rw [F 3 k h2.2 (fun z => (h3 _ z).2 rfl)]; exact h.2 k q⟩
theorem TabM.frS {M M' : Mem} {cs : List Nat} {ss : List (Nat × Nat)} (h : TabM M) (F : FrS cs ss M M') (h2 : 41 ∉ cs ∧ 42 ∉ cs ∧ 43 ∉ cs) (h3 : ∀ q ∈ ss, q.1 ≠ 41 ∧ q.1 ≠ 42 ∧ q.1 ≠ 43) : TabM M' := ⟨fun k q => by rw [F 41 k h2.1 (fun z => (h3 _ z).1 rfl)]; exact h.1 k q, fun k q => by rw [F 42 k h2.2.1 (fun z => (h3 _ z).2.1 rfl)]; exact h.2.1 k q, fun k q => by rw [F 43 k h2.2.2 (fun z => (h3 _ z).2.2 rfl)]; exact h.2.2 k q⟩
theorem upd2_upd2 (M : Mem) (a k : Nat) (x y : Int32) : upd2 (upd2 M a k x) a k y = upd2 M a k y := by
  funext b j
  by_cases hb : b = a
  · subst hb
    by_cases hj : j = k
    · subst hj; rw [u_ss, u_ss]
    · rw [u_sn hj, u_sn hj, u_sn hj]
  · rw [u_nn hb, u_nn hb, u_nn hb]
theorem upd2_id (M : Mem) (a k : Nat) : upd2 M a k (M a k) = M := by
  funext b j
  by_cases hb : b = a
  · subst hb
    by_cases hj : j = k
    · subst hj; rw [u_ss]
    · rw [u_sn hj]
  · rw [u_nn hb]
-- the scramble
def ssS (p : Int32 × Int32) : Int32 × Int32 := (2 * p.1 + (p.2 >>> ((15 : Int32) &&& 31)), if p.2 >>> ((15 : Int32) &&& 31) = 1 then ((p.2 <<< ((1 : Int32) &&& 31)) &&& 65535) ^^^ 40977 else (p.2 <<< ((1 : Int32) &&& 31)) &&& 65535)
def ssI : Nat → Int32 × Int32 → Int32 × Int32
  | 0, p => p
  | d + 1, p => ssI d (ssS p)
set_option maxRecDepth 100000 in
theorem sc_tab : ∀ i, i < 16 → ssI 8 (0, rS i) = (sc i, rS (i + 1)) ∧ okB (sc i) := by
  have h : ∀ i, i < 16 → ssI 8 (0, rS i) = (sc i, rS (i + 1)) ∧ sc i &&& 255 = sc i := by decide +kernel
  exact h
theorem rS_0 : rS 0 = 65535 := rfl
set_option maxHeartbeats 4000000 in
set_option maxRecDepth 100000 in
theorem m_ns_lp {M : Mem} : ∀ (d j : Nat) (b : Int32) (M : Mem), j + d = 8 → WP mX6_nextScramble 4 [some (.ref 40), some (.int b), some (.int (nI j)), none] [] 0 0 (shp, rfs, M) (fun r1 h1 => r1 = some (.int (ssI d (b, M 40 33)).1) ∧ h1 = (shp, rfs, upd2 M 40 33 (ssI d (b, M 40 33)).2)) := by
  intro d
  induction d with
  | zero =>
    intro j b M hj
    have hj : j = 8 := by omega
    subst hj
    refine r_iload_n dX6_nextScramble_4 rfl rfl ?_
    refine r_bipush 8 dX6_nextScramble_5 (by decide) ?_
    refine r_icmp_ge 66 dX6_nextScramble_7 (by decide) (fun c_7 => ?_) (fun c_7 => absurd (by decide) c_7)
    refine r_iload_n dX6_nextScramble_66 rfl rfl ?_
    refine r_ireturn dX6_nextScramble_67 rfl (Nat.zero_le _) (Nat.zero_le _) ?_
    exact ⟨rfl, by rw [show (ssI 0 (b, M 40 33)).2 = M 40 33 from rfl, upd2_id]⟩
  | succ d ih =>
    intro j b M hj
    refine r_iload_n dX6_nextScramble_4 rfl rfl ?_
    refine r_bipush 8 dX6_nextScramble_5 (by decide) ?_
    refine r_icmp_ge 66 dX6_nextScramble_7 (by decide) (fun c_7 => absurd c_7 (nI_ge (a := j) (b := 8) (by omega) (by decide))) (fun c_7 => ?_)
    refine r_aload_n dX6_nextScramble_10 rfl rfl ?_
    refine r_getI (N := 35) dX6_nextScramble_11 fwX6_109 (by first | rfl | assumption) (Nat.le_of_ble_eq_true rfl) rfl ?_
    refine r_bipush 15 dX6_nextScramble_14 (by decide) ?_
    refine r_ishr dX6_nextScramble_16 ?_
    refine r_istore_n3 dX6_nextScramble_17 rfl (Nat.le_of_ble_eq_true rfl) ?_
    refine r_iconst 2 dX6_nextScramble_18 (by decide) ?_
    refine r_iload_n dX6_nextScramble_19 rfl rfl ?_
    refine r_imul dX6_nextScramble_20 ?_
    refine r_iload_n dX6_nextScramble_21 rfl rfl ?_
    refine r_iadd dX6_nextScramble_22 ?_
    refine r_istore_n1 dX6_nextScramble_23 rfl (Nat.le_of_ble_eq_true rfl) ?_
    refine r_aload_n dX6_nextScramble_24 rfl rfl ?_
    refine r_aload_n dX6_nextScramble_25 rfl rfl ?_
    refine r_getI (N := 35) dX6_nextScramble_26 fwX6_109 (by first | rfl | assumption) (Nat.le_of_ble_eq_true rfl) rfl ?_
    refine r_iconst 1 dX6_nextScramble_29 (by decide) ?_
    refine r_ishl dX6_nextScramble_30 ?_
    refine r_ldc 65535 dX6_nextScramble_31 cnX6_112 ?_
    refine r_iand dX6_nextScramble_33 ?_
    refine r_putI (N := 35) dX6_nextScramble_34 fwX6_109 (by first | rfl | assumption) (Nat.le_of_ble_eq_true rfl) rfl (Or.inl rfl) rfl rfl ?_
    refine r_aload_n dX6_nextScramble_37 rfl rfl ?_
    refine r_iload_n dX6_nextScramble_38 rfl rfl ?_
    refine r_iconst 1 dX6_nextScramble_39 (by decide) ?_
    refine r_icmp_ne 53 dX6_nextScramble_40 (by decide) (fun c_40 => ?_) (fun c_40 => ?_)
    · refine r_aload_n dX6_nextScramble_53 rfl rfl ?_
      refine r_getI (N := 35) dX6_nextScramble_54 fwX6_109 (by first | rfl | assumption) (Nat.le_of_ble_eq_true rfl) rfl ?_
      refine r_putI (N := 35) dX6_nextScramble_57 fwX6_109 (by first | rfl | assumption) (Nat.le_of_ble_eq_true rfl) rfl (Or.inl rfl) rfl rfl ?_
      refine r_iinc_2 (_ + 1) dX6_nextScramble_60 rfl (Nat.le_of_ble_eq_true rfl) rfl ?_
      refine r_goto 4 dX6_nextScramble_63 (by decide) ?_
      rw [nI_1, u_ss, upd2_upd2]
      simp only [ssI, ssS]
      first | rw [if_neg c_40] | rw [if_pos c_40]
      have h9 := fun x y => ih (j + 1) x (upd2 M 40 33 y) (by omega)
      simp only [u_ss, upd2_upd2] at h9
      refine r_weak (lv' := [some (.ref 40), some (.int _), some (.int (nI (j + 1))), none]) ?_ (h9 _ _)
      simp [lvle]
    · refine r_aload_n dX6_nextScramble_43 rfl rfl ?_
      refine r_getI (N := 35) dX6_nextScramble_44 fwX6_109 (by first | rfl | assumption) (Nat.le_of_ble_eq_true rfl) rfl ?_
      refine r_ldc 40977 dX6_nextScramble_47 cnX6_113 ?_
      refine r_ixor dX6_nextScramble_49 ?_
      refine r_goto 57 dX6_nextScramble_50 (by decide) ?_
      refine r_putI (N := 35) dX6_nextScramble_57 fwX6_109 (by first | rfl | assumption) (Nat.le_of_ble_eq_true rfl) rfl (Or.inl rfl) rfl rfl ?_
      refine r_iinc_2 (_ + 1) dX6_nextScramble_60 rfl (Nat.le_of_ble_eq_true rfl) rfl ?_
      refine r_goto 4 dX6_nextScramble_63 (by decide) ?_
      rw [nI_1, u_ss, upd2_upd2]
      simp only [ssI, ssS]
      first | rw [if_neg c_40] | rw [if_pos c_40]
      have h9 := fun x y => ih (j + 1) x (upd2 M 40 33 y) (by omega)
      simp only [u_ss, upd2_upd2] at h9
      refine r_weak (lv' := [some (.ref 40), some (.int _), some (.int (nI (j + 1))), none]) ?_ (h9 _ _)
      simp [lvle]
set_option maxHeartbeats 4000000 in
set_option maxRecDepth 100000 in
theorem m_nextScramble {M : Mem} {i : Nat} (hi : i < 16) (hr : M 40 33 = rS i) : Gv mX6_nextScramble [.ref 40] M (some (.int (sc i))) (upd2 M 40 33 (rS (i + 1))) := by
  have h := m_ns_lp (M := M) 8 0 0 M rfl
  rw [hr, (sc_tab i hi).1] at h
  refine con_of (lv := [some (.ref 40), none, none, none]) (by decide) rfl (Nat.le_of_ble_eq_true rfl) (by simp [lvle]) ?_
  refine r_iconst 0 dX6_nextScramble_0 (by decide) ?_
  refine r_istore_n1 dX6_nextScramble_1 rfl (Nat.le_of_ble_eq_true rfl) ?_
  refine r_iconst 0 dX6_nextScramble_2 (by decide) ?_
  refine r_istore_n2 dX6_nextScramble_3 rfl (Nat.le_of_ble_eq_true rfl) ?_
  exact h
-- the wire
def exF (V : Nat → Nat) : Nat → Bool
  | 0 => false
  | w + 1 => Bool.xor (exF V w) (decide (252 ≤ V w))
def wwF (V : Nat → Nat) (w : Nat) : Int32 := wd (V w) (exF V w)
def btF (V : Nat → Nat) (j : Nat) : Int32 := us (wwF V (j / 10)) (nI (9 - j % 10)) &&& 1
def WC (M : Mem) (u : Nat) (V : Nat → Nat) : Prop := M 4 5 = nI u ∧ ∀ j, j < u → M 10 j = btF V j
def WM (M : Mem) (u : Nat) (V : Nat → Nat) : Prop := M 40 12 = nI u ∧ ∀ j, j < u → M 48 j = btF V j
set_option maxHeartbeats 4000000 in
set_option maxRecDepth 100000 in
theorem x_putBits_lp {V : Nat → Nat} {m : Nat} {M0 : Mem} (hm : 10 * m + 10 ≤ 180) : ∀ (d : Nat) (M : Mem), d ≤ 10 → WC M (10 * m + (10 - d)) V → FrS [10] [(4, 5)] M0 M → ∃ M', WP mX4_putBits 3 [some (.ref 4), some (.int (wwF V m)), some (.int (nI d + (-1)))] [] 0 0 (shp, rfs, M) (fun r1 h1 => r1 = none ∧ h1 = (shp, rfs, M')) ∧ WC M' (10 * m + 10) V ∧ FrS [10] [(4, 5)] M0 M' := by
  intro d
  induction d with
  | zero =>
    intro M _ H F
    refine ⟨M, ?_, H, F⟩
    refine r_iload_n dX4_putBits_3 rfl rfl ?_
    refine r_if_lt 49 dX4_putBits_4 (by decide) (fun c_4 => ?_) (fun c_4 => absurd m1_lt c_4)
    refine r_return dX4_putBits_49 rfl (Nat.zero_le _) (Nat.zero_le _) ?_
    exact ⟨rfl, rfl⟩
  | succ d ih =>
    intro M hd H F
    rw [m1_nI]
    have hlen := H.1
    have hcl : (M 4 5).toNatClampNeg = 10 * m + (10 - (d + 1)) := by rw [hlen]; exact nI_clamp (by omega)
    have H2 : WC (upd2 (upd2 M 10 (10 * m + (10 - (d + 1))) (us (wwF V m) (nI d) &&& 1)) 4 5 (nI (10 * m + (10 - (d + 1))) + 1)) (10 * m + (10 - d)) V := by
      refine ⟨?_, fun j hj => ?_⟩
      · rw [u_ss, nI_1]
        congr 1
        omega
      · rw [u_nn (by decide)]
        by_cases h : j = 10 * m + (10 - (d + 1))
        · subst h
          rw [u_ss]
          unfold btF
          rw [show (10 * m + (10 - (d + 1))) / 10 = m by omega, show 9 - (10 * m + (10 - (d + 1))) % 10 = d by omega]
        · rw [u_sn h]
          exact H.2 j (by omega)
    obtain ⟨M', w, H', F'⟩ := ih _ (by omega) H2 ((F.upc (by decide)).ups (by decide))
    refine ⟨M', ?_, H', F'⟩
    refine r_iload_n dX4_putBits_3 rfl rfl ?_
    refine r_if_lt 49 dX4_putBits_4 (by decide) (fun c_4 => absurd c_4 (nI_nneg (by omega))) (fun c_4 => ?_)
    refine r_aload_n dX4_putBits_7 rfl rfl ?_
    refine r_getI (N := 13) dX4_putBits_8 fwX4_43 (by first | rfl | assumption) (Nat.le_of_ble_eq_true rfl) rfl ?_
    refine r_aload_n dX4_putBits_11 rfl rfl ?_
    refine r_getR (N := 13) dX4_putBits_12 fwX4_25 (by first | rfl | assumption) (Nat.le_of_ble_eq_true rfl) rfl (by first | rfl | assumption) ?_
    refine r_alen dX4_putBits_15 (by first | rfl | assumption) (by first | exact Or.inl rfl | exact Or.inr rfl) ?_
    refine r_icmp_ge 43 dX4_putBits_16 (by decide) (fun c_16 => absurd c_16 (by rw [hlen]; exact nI_ge (by omega) (by decide))) (fun c_16 => ?_)
    refine r_aload_n dX4_putBits_19 rfl rfl ?_
    refine r_getR (N := 13) dX4_putBits_20 fwX4_25 (by first | rfl | assumption) (Nat.le_of_ble_eq_true rfl) rfl (by first | rfl | assumption) ?_
    refine r_aload_n dX4_putBits_23 rfl rfl ?_
    refine r_getI (N := 13) dX4_putBits_24 fwX4_43 (by first | rfl | assumption) (Nat.le_of_ble_eq_true rfl) rfl ?_
    refine r_iload_n dX4_putBits_27 rfl rfl ?_
    refine r_iload_n dX4_putBits_28 rfl rfl ?_
    refine r_iushr dX4_putBits_29 ?_
    refine r_iconst 1 dX4_putBits_30 (by decide) ?_
    refine r_iand dX4_putBits_31 ?_
    refine r_iastore dX4_putBits_32 (by first | rfl | assumption) (by rw [hlen]; exact vp_in_nI (by omega) (by decide)) ?_
    refine r_aload_n dX4_putBits_33 rfl rfl ?_
    first | refine r_dupR dX4_putBits_34 ?_ | refine r_dupI dX4_putBits_34 ?_
    refine r_getI (N := 13) dX4_putBits_35 fwX4_43 (by first | rfl | assumption) (Nat.le_of_ble_eq_true rfl) rfl ?_
    refine r_iconst 1 dX4_putBits_38 (by decide) ?_
    refine r_iadd dX4_putBits_39 ?_
    refine r_putI (N := 13) dX4_putBits_40 fwX4_43 (by first | rfl | assumption) (Nat.le_of_ble_eq_true rfl) rfl (Or.inl rfl) rfl rfl ?_
    refine r_iinc_2 (_ + (-1)) dX4_putBits_43 rfl (Nat.le_of_ble_eq_true rfl) rfl ?_
    refine r_goto 3 dX4_putBits_46 (by decide) ?_
    rw [hcl, u_nn (by decide), hlen]
    exact w
set_option maxHeartbeats 4000000 in
set_option maxRecDepth 100000 in
theorem x_putBits {V : Nat → Nat} {m : Nat} {M : Mem} (hm : 10 * m + 10 ≤ 180) (H : WC M (10 * m) V) : ∃ M', Gv mX4_putBits [.ref 4, .int (wwF V m)] M none M' ∧ WC M' (10 * (m + 1)) V ∧ FrS [10] [(4, 5)] M M' := by
  obtain ⟨M', w, H', F'⟩ := x_putBits_lp hm 10 M (Nat.le_refl _) H FrS.rf
  refine ⟨M', ?_, H', F'⟩
  refine con_of (lv := [some (.ref 4), some (.int (wwF V m)), none]) (by decide) rfl (Nat.le_of_ble_eq_true rfl) (by simp [lvle]) ?_
  refine r_bipush 9 dX4_putBits_0 (by decide) ?_
  refine r_istore_n2 dX4_putBits_2 rfl (Nat.le_of_ble_eq_true rfl) ?_
  exact w
set_option maxHeartbeats 4000000 in
set_option maxRecDepth 100000 in
theorem m_wireWord_lp {V : Nat → Nat} {m : Nat} {M0 : Mem} {x : Int32} (hm : 10 * m + 10 ≤ 180) : ∀ (d : Nat) (M : Mem), d ≤ 10 → WM M (10 * m + (10 - d)) V → FrS [48] [(40, 12)] M0 M → ∃ M', WP mX6_wireWord 36 [some (.ref 40), some (.int x), some (.int (wwF V m)), some (.int (nI d + (-1)))] [] 0 0 (shp, rfs, M) (fun r1 h1 => r1 = none ∧ h1 = (shp, rfs, M')) ∧ WM M' (10 * m + 10) V ∧ FrS [48] [(40, 12)] M0 M' := by
  intro d
  induction d with
  | zero =>
    intro M _ H F
    refine ⟨M, ?_, H, F⟩
    refine r_iload_n dX6_wireWord_36 rfl rfl ?_
    refine r_if_lt 70 dX6_wireWord_37 (by decide) (fun c_37 => ?_) (fun c_37 => absurd m1_lt c_37)
    refine r_return dX6_wireWord_70 rfl (Nat.zero_le _) (Nat.zero_le _) ?_
    exact ⟨rfl, rfl⟩
  | succ d ih =>
    intro M hd H F
    rw [m1_nI]
    have hlen := H.1
    have hcl : (M 40 12).toNatClampNeg = 10 * m + (10 - (d + 1)) := by rw [hlen]; exact nI_clamp (by omega)
    have H2 : WM (upd2 (upd2 M 48 (10 * m + (10 - (d + 1))) (us (wwF V m) (nI d) &&& 1)) 40 12 (nI (10 * m + (10 - (d + 1))) + 1)) (10 * m + (10 - d)) V := by
      refine ⟨?_, fun j hj => ?_⟩
      · rw [u_ss, nI_1]
        congr 1
        omega
      · rw [u_nn (by decide)]
        by_cases h : j = 10 * m + (10 - (d + 1))
        · subst h
          rw [u_ss]
          unfold btF
          rw [show (10 * m + (10 - (d + 1))) / 10 = m by omega, show 9 - (10 * m + (10 - (d + 1))) % 10 = d by omega]
        · rw [u_sn h]
          exact H.2 j (by omega)
    obtain ⟨M', w, H', F'⟩ := ih _ (by omega) H2 ((F.upc (by decide)).ups (by decide))
    refine ⟨M', ?_, H', F'⟩
    refine r_iload_n dX6_wireWord_36 rfl rfl ?_
    refine r_if_lt 70 dX6_wireWord_37 (by decide) (fun c_37 => absurd c_37 (nI_nneg (by omega))) (fun c_37 => ?_)
    refine r_aload_n dX6_wireWord_40 rfl rfl ?_
    refine r_getR (N := 35) dX6_wireWord_41 fwX6_31 (by first | rfl | assumption) (Nat.le_of_ble_eq_true rfl) rfl (by first | rfl | assumption) ?_
    refine r_aload_n dX6_wireWord_44 rfl rfl ?_
    refine r_getI (N := 35) dX6_wireWord_45 fwX6_118 (by first | rfl | assumption) (Nat.le_of_ble_eq_true rfl) rfl ?_
    refine r_iload_n dX6_wireWord_48 rfl rfl ?_
    refine r_iload_n dX6_wireWord_49 rfl rfl ?_
    refine r_ishr dX6_wireWord_50 ?_
    refine r_iconst 1 dX6_wireWord_51 (by decide) ?_
    refine r_iand dX6_wireWord_52 ?_
    refine r_iastore dX6_wireWord_53 (by first | rfl | assumption) (by rw [hlen]; exact vp_in_nI (by omega) (by decide)) ?_
    refine r_aload_n dX6_wireWord_54 rfl rfl ?_
    first | refine r_dupR dX6_wireWord_55 ?_ | refine r_dupI dX6_wireWord_55 ?_
    refine r_getI (N := 35) dX6_wireWord_56 fwX6_118 (by first | rfl | assumption) (Nat.le_of_ble_eq_true rfl) rfl ?_
    refine r_iconst 1 dX6_wireWord_59 (by decide) ?_
    refine r_iadd dX6_wireWord_60 ?_
    refine r_putI (N := 35) dX6_wireWord_61 fwX6_118 (by first | rfl | assumption) (Nat.le_of_ble_eq_true rfl) rfl (Or.inl rfl) rfl rfl ?_
    refine r_iinc_3 (_ + (-1)) dX6_wireWord_64 rfl (Nat.le_of_ble_eq_true rfl) rfl ?_
    refine r_goto 36 dX6_wireWord_67 (by decide) ?_
    rw [hcl, u_nn (by decide), hlen, sh_and1 _ (by omega)]
    exact w
theorem eI_inj {a b : Bool} : eI a = eI b ↔ a = b := by cases a <;> cases b <;> decide
set_option maxHeartbeats 4000000 in
set_option maxRecDepth 100000 in
theorem m_wireWord {V : Nat → Nat} {m : Nat} {M : Mem} (T : TabM M) (hm : 10 * m + 10 ≤ 180) (H : WM M (10 * m) V) (he : M 40 34 = eI (exF V m)) (hv : V m < 264) : ∃ M', Gv mX6_wireWord [.ref 40, .int (nI (V m))] M none M' ∧ WM M' (10 * (m + 1)) V ∧ M' 40 34 = eI (exF V (m + 1)) ∧ FrS [48] [(40, 12), (40, 34)] M M' := by
  have hw := m_wordOf T hv (e := exF V m)
  rw [← he] at hw
  have H2 : WM (upd2 M 40 34 (eI (exF V (m + 1)))) (10 * m) V := ⟨by rw [u_sn (by decide)]; exact H.1, fun j hj => by rw [u_nn (by decide)]; exact H.2 j hj⟩
  obtain ⟨M', w, H', F'⟩ := m_wireWord_lp (x := nI (V m)) hm 10 _ (Nat.le_refl _) H2 FrS.rf
  have F2 : FrS [48] [(40, 12), (40, 34)] M M' := ((FrS.rf.ups (M := M) (k := 34) (a := 40) (x := eI (exF V (m + 1))) (ss := [(40, 12), (40, 34)]) (cs := [48]) (by decide))).tr (F'.mono (by decide) (by decide))
  refine ⟨M', ?_, H', by rw [F' 40 34 (by decide) (by decide), u_ss], F2⟩
  refine con_of (lv := [some (.ref 40), some (.int (nI (V m))), none, none]) (by decide) rfl (Nat.le_of_ble_eq_true rfl) (by simp [lvle]) ?_
  by_cases h : 252 ≤ V m
  · have hx : exF V (m + 1) = !exF V m := by
      show Bool.xor _ _ = _
      rw [decide_eq_true h]
      cases exF V m <;> rfl
    rw [hx] at w
    refine r_aload_n dX6_wireWord_0 rfl rfl ?_
    refine r_iload_n dX6_wireWord_1 rfl rfl ?_
    refine r_aload_n dX6_wireWord_2 rfl rfl ?_
    refine r_getI (N := 35) dX6_wireWord_3 fwX6_114 (by first | rfl | assumption) (Nat.le_of_ble_eq_true rfl) rfl ?_
    refine gV2 (Y := mX6_wordOf) (ci := 6) (N := 35) dX6_wireWord_6 mlX6_85 vkX6_wordOf (by first | rfl | assumption) ⟨by decide, rfl⟩ rfl hw ?_
    refine r_istore_n2 dX6_wireWord_9 rfl (Nat.le_of_ble_eq_true rfl) ?_
    refine r_iload_n dX6_wireWord_10 rfl rfl ?_
    refine gS1 (Y := mX6_isEven) dX6_wireWord_11 mlX6_77 ckX6_isEven skX6_isEven rfl (m_isEven_f (nI_le (a := 252) (b := V m) h (by omega))) ?_
    refine r_if_ne 33 dX6_wireWord_14 (by decide) (fun c_14 => absurd rfl c_14) (fun c_14 => ?_)
    refine r_aload_n dX6_wireWord_17 rfl rfl ?_
    refine r_aload_n dX6_wireWord_18 rfl rfl ?_
    refine r_getI (N := 35) dX6_wireWord_19 fwX6_114 (by first | rfl | assumption) (Nat.le_of_ble_eq_true rfl) rfl ?_
    refine r_if_ne 29 dX6_wireWord_22 (by decide) (fun c_22 => ?_) (fun c_22 => ?_)
    · refine r_iconst 0 dX6_wireWord_29 (by decide) ?_
      refine r_putI (N := 35) dX6_wireWord_30 fwX6_114 (by first | rfl | assumption) (Nat.le_of_ble_eq_true rfl) rfl (Or.inl rfl) (by decide) (by decide) ?_
      refine r_bipush 9 dX6_wireWord_33 (by decide) ?_
      refine r_istore_n3 dX6_wireWord_35 rfl (Nat.le_of_ble_eq_true rfl) ?_
      rw [he] at c_22
      first | (have h5 : exF V m = true := (by cases hq : exF V m with | true => rfl | false => exact absurd (by rw [hq]; rfl) c_22); rw [h5] at w; exact w) | (have h5 : exF V m = false := (by cases hq : exF V m with | false => rfl | true => rw [hq] at c_22; exact absurd c_22 (by decide)); rw [h5] at w; exact w)
    · refine r_iconst 1 dX6_wireWord_25 (by decide) ?_
      refine r_goto 30 dX6_wireWord_26 (by decide) ?_
      refine r_putI (N := 35) dX6_wireWord_30 fwX6_114 (by first | rfl | assumption) (Nat.le_of_ble_eq_true rfl) rfl (Or.inl rfl) (by decide) (by decide) ?_
      refine r_bipush 9 dX6_wireWord_33 (by decide) ?_
      refine r_istore_n3 dX6_wireWord_35 rfl (Nat.le_of_ble_eq_true rfl) ?_
      rw [he] at c_22
      first | (have h5 : exF V m = true := (by cases hq : exF V m with | true => rfl | false => exact absurd (by rw [hq]; rfl) c_22); rw [h5] at w; exact w) | (have h5 : exF V m = false := (by cases hq : exF V m with | false => rfl | true => rw [hq] at c_22; exact absurd c_22 (by decide)); rw [h5] at w; exact w)
  · have hx : exF V (m + 1) = exF V m := by
      show Bool.xor _ _ = _
      rw [decide_eq_false h]
      cases exF V m <;> rfl
    rw [hx, ← he, upd2_id] at w
    refine r_aload_n dX6_wireWord_0 rfl rfl ?_
    refine r_iload_n dX6_wireWord_1 rfl rfl ?_
    refine r_aload_n dX6_wireWord_2 rfl rfl ?_
    refine r_getI (N := 35) dX6_wireWord_3 fwX6_114 (by first | rfl | assumption) (Nat.le_of_ble_eq_true rfl) rfl ?_
    refine gV2 (Y := mX6_wordOf) (ci := 6) (N := 35) dX6_wireWord_6 mlX6_85 vkX6_wordOf (by first | rfl | assumption) ⟨by decide, rfl⟩ rfl hw ?_
    refine r_istore_n2 dX6_wireWord_9 rfl (Nat.le_of_ble_eq_true rfl) ?_
    refine r_iload_n dX6_wireWord_10 rfl rfl ?_
    refine gS1 (Y := mX6_isEven) dX6_wireWord_11 mlX6_77 ckX6_isEven skX6_isEven rfl (m_isEven_t (nI_ge (a := V m) (b := 252) (by omega) (by decide))) ?_
    refine r_if_ne 33 dX6_wireWord_14 (by decide) (fun c_14 => ?_) (fun c_14 => absurd c_14 (by decide))
    refine r_bipush 9 dX6_wireWord_33 (by decide) ?_
    refine r_istore_n3 dX6_wireWord_35 rfl (Nat.le_of_ble_eq_true rfl) ?_
    exact w
end
section
def TabS (M : Mem) : Prop := ∀ i, i < 16 → M 5 i = sc i
theorem TabS.frS {M M' : Mem} {cs : List Nat} {ss : List (Nat × Nat)} (h : TabS M) (F : FrS cs ss M M') (h2 : 5 ∉ cs) (h3 : ∀ q ∈ ss, q.1 ≠ 5) : TabS M' := fun k q => by rw [F 5 k h2 (fun z => h3 _ z rfl)]; exact h k q
theorem okB_xor {a b : Int32} (ha : okB a) (hb : okB b) : okB (a ^^^ b) := by
  unfold okB at *
  apply b_ext
  intro i hi
  have h1 := congrArg (fun x => bt x i) ha
  have h2 := congrArg (fun x => bt x i) hb
  simp only [b_and, b_xor] at *
  cases h5 : bt 255 i
  · rw [h5] at h1 h2
    simp at h1 h2
    simp [h1, h2]
  · simp
/-- the bytes of a frame: the payload and its check -/
def bb (p : Nat → Int32) (n j : Nat) : Int32 := if j < n then p j else nby (crcN p n) (j - n)
def Vf (g : Nat → Int32) (N w : Nat) : Nat := if w = 0 then 256 else if w = N + 1 then 257 else (g (w - 1) ^^^ sc (w - 1)).toNatClampNeg
theorem Vf_0 (g : Nat → Int32) (N : Nat) : Vf g N 0 = 256 := rfl
theorem Vf_l (g : Nat → Int32) (N : Nat) : Vf g N (N + 1) = 257 := by
  unfold Vf
  rw [if_neg (by omega), if_pos rfl]
theorem Vf_m {g : Nat → Int32} {N j : Nat} (hj : j < N) (hN : N ≤ 16) (hg : okB (g j)) : nI (Vf g N (j + 1)) = g j ^^^ sc j ∧ Vf g N (j + 1) < 256 := by
  obtain ⟨k, hk, he⟩ := okB_of (okB_xor hg (sc_tab j (by omega)).2)
  unfold Vf
  rw [if_neg (by omega), if_neg (by omega), show j + 1 - 1 = j by omega, he, nI_clamp (by omega)]
  exact ⟨rfl, hk⟩
theorem Vf_lt {g : Nat → Int32} {N w : Nat} (hw : w ≤ N + 1) (hN : N ≤ 16) (hg : ∀ j, j < N → okB (g j)) : Vf g N w < 264 := by
  rcases Nat.eq_zero_or_pos w with h | h
  · subst h; rw [Vf_0]; omega
  · obtain ⟨j, rfl⟩ : ∃ j, w = j + 1 := ⟨w - 1, by omega⟩
    by_cases hj : j < N
    · have := (Vf_m hj hN (hg j hj)).2
      omega
    · have : j = N := by omega
      subst this
      rw [Vf_l]
      omega
set_option maxHeartbeats 4000000 in
set_option maxRecDepth 100000 in
theorem x_scr_i {M : Mem} (T : TabS M) {b : Int32} {j : Nat} (hj : j < 16) : Gv mX4_scrambled [.ref 4, .int b, .int (nI j)] M (some (.int (b ^^^ sc j))) M := by
  have hcl : (nI j).toNatClampNeg = j := nI_clamp (by omega)
  refine con_of (lv := [some (.ref 4), some (.int b), some (.int (nI j))]) (by decide) rfl (Nat.le_of_ble_eq_true rfl) (by simp [lvle]) ?_
  refine r_iload_n dX4_scrambled_0 rfl rfl ?_
  refine r_if_lt 24 dX4_scrambled_1 (by decide) (fun c_1 => absurd c_1 (nI_pos (by omega))) (fun c_1 => ?_)
  refine r_iload_n dX4_scrambled_4 rfl rfl ?_
  refine r_aload_n dX4_scrambled_5 rfl rfl ?_
  refine r_getR (N := 13) dX4_scrambled_6 fwX4_9 (by first | rfl | assumption) (Nat.le_of_ble_eq_true rfl) rfl (by first | rfl | assumption) ?_
  refine r_alen dX4_scrambled_9 (by first | rfl | assumption) (by first | exact Or.inl rfl | exact Or.inr rfl) ?_
  refine r_icmp_ge 24 dX4_scrambled_10 (by decide) (fun c_10 => absurd c_10 (nI_ge hj (by decide))) (fun c_10 => ?_)
  refine r_iload_n dX4_scrambled_13 rfl rfl ?_
  refine r_aload_n dX4_scrambled_14 rfl rfl ?_
  refine r_getR (N := 13) dX4_scrambled_15 fwX4_9 (by first | rfl | assumption) (Nat.le_of_ble_eq_true rfl) rfl (by first | rfl | assumption) ?_
  refine r_iload_n dX4_scrambled_18 rfl rfl ?_
  refine r_iaload dX4_scrambled_19 (by first | rfl | assumption) (by exact vp_in_nI hj (by decide)) ?_
  refine r_ixor dX4_scrambled_20 ?_
  refine r_goto 25 dX4_scrambled_21 (by decide) ?_
  refine r_ireturn dX4_scrambled_25 rfl (Nat.zero_le _) (Nat.zero_le _) ?_
  rw [hcl, T j hj]
  exact ⟨rfl, rfl⟩
set_option maxHeartbeats 4000000 in
set_option maxRecDepth 100000 in
theorem x_scr_o {M : Mem} {b x : Int32} (h : x < 0 ∨ nI 16 ≤ x) : Gv mX4_scrambled [.ref 4, .int b, .int x] M (some (.int b)) M := by
  refine con_of (lv := [some (.ref 4), some (.int b), some (.int x)]) (by decide) rfl (Nat.le_of_ble_eq_true rfl) (by simp [lvle]) ?_
  refine r_iload_n dX4_scrambled_0 rfl rfl ?_
  refine r_if_lt 24 dX4_scrambled_1 (by decide) (fun c_1 => ?_) (fun c_1 => ?_)
  · refine r_iload_n dX4_scrambled_24 rfl rfl ?_
    refine r_ireturn dX4_scrambled_25 rfl (Nat.zero_le _) (Nat.zero_le _) ?_
    exact ⟨rfl, rfl⟩
  · refine r_iload_n dX4_scrambled_4 rfl rfl ?_
    refine r_aload_n dX4_scrambled_5 rfl rfl ?_
    refine r_getR (N := 13) dX4_scrambled_6 fwX4_9 (by first | rfl | assumption) (Nat.le_of_ble_eq_true rfl) rfl (by first | rfl | assumption) ?_
    refine r_alen dX4_scrambled_9 (by first | rfl | assumption) (by first | exact Or.inl rfl | exact Or.inr rfl) ?_
    refine r_icmp_ge 24 dX4_scrambled_10 (by decide) (fun c_10 => ?_) (fun c_10 => absurd h (fun q => q.elim c_1 c_10))
    refine r_iload_n dX4_scrambled_24 rfl rfl ?_
    refine r_ireturn dX4_scrambled_25 rfl (Nat.zero_le _) (Nat.zero_le _) ?_
    exact ⟨rfl, rfl⟩
set_option maxHeartbeats 4000000 in
set_option maxRecDepth 100000 in
theorem x_low_tail {V : Nat → Nat} {w : Nat} {M M' : Mem} (T : TabC M) (hk : V w < 264) (g : Gv mX4_putBits [.ref 4, .int (wwF V w)] M none M') {la : Int32} {Q : Option Value → Hp → Prop} (hq : WP mX4_layOnWire 19 [some (.ref 4), some (.int la), some (.int (eI (exF V (w + 1)))), some (.int (nI (w + 1))), none] [] 0 0 (shp, rfs, M') Q) : WP mX4_layOnWire 65 [some (.ref 4), some (.int la), some (.int (eI (exF V w))), some (.int (nI w)), some (.int (nI (V w)))] [] 0 0 (shp, rfs, M) Q := by
  have hw := x_wordOf T (x := nI (V w)) (e := exF V w)
  rw [encS_i hk] at hw
  by_cases h : 252 ≤ V w
  · have hx : exF V (w + 1) = !exF V w := by
      show Bool.xor _ _ = _
      rw [decide_eq_true h]
      cases exF V w <;> rfl
    rw [hx] at hq
    have h3 : ¬ nI (V w) < 252 := nI_nlt (a := V w) (b := 252) h (by omega)
    generalize he : exF V w = e at hq hw ⊢
    cases e with
    | true =>
      refine r_aload_n dX4_layOnWire_65 rfl rfl ?_
      refine r_aload_n dX4_layOnWire_66 rfl rfl ?_
      refine r_getR (N := 13) dX4_layOnWire_67 fwX4_37 (by first | rfl | assumption) (Nat.le_of_ble_eq_true rfl) rfl (by first | rfl | assumption) ?_
      refine r_iload dX4_layOnWire_70 rfl ?_
      refine r_iload_n dX4_layOnWire_72 rfl rfl ?_
      refine gV2 (Y := mX1_wordOf) (ci := 1) (N := 2) dX4_layOnWire_73 mlX4_98 vkX1_wordOf (by first | rfl | assumption) ⟨by decide, rfl⟩ rfl hw ?_
      refine gW1 (Y := mX4_putBits) (ci := 4) (N := 13) dX4_layOnWire_76 mlX4_104 vkX4_putBits (by first | rfl | assumption) ⟨by decide, rfl⟩ rfl (by rw [← he]; exact g) ?_
      refine r_iload_n dX4_layOnWire_79 rfl rfl ?_
      refine r_iload dX4_layOnWire_80 rfl ?_
      refine r_sipush 252 dX4_layOnWire_82 (by decide) ?_
      refine r_icmp_lt 92 dX4_layOnWire_85 (by decide) (fun c_85 => absurd c_85 h3) (fun c_85 => ?_)
      refine r_iconst 1 dX4_layOnWire_88 (by decide) ?_
      refine r_goto 93 dX4_layOnWire_89 (by decide) ?_
      refine r_icmp_eq 100 dX4_layOnWire_93 (by decide) (fun c_93 => ?_) (fun c_93 => absurd rfl c_93)
      refine r_iconst 0 dX4_layOnWire_100 (by decide) ?_
      refine r_istore_n2 dX4_layOnWire_101 rfl (Nat.le_of_ble_eq_true rfl) ?_
      refine r_iinc_3 (_ + 1) dX4_layOnWire_102 rfl (Nat.le_of_ble_eq_true rfl) rfl ?_
      refine r_goto 19 dX4_layOnWire_105 (by decide) ?_
      rw [nI_1]
      exact r_weak (by simp [lvle] <;> (repeat' apply And.intro) <;> first | rfl | decide) hq
    | false =>
      refine r_aload_n dX4_layOnWire_65 rfl rfl ?_
      refine r_aload_n dX4_layOnWire_66 rfl rfl ?_
      refine r_getR (N := 13) dX4_layOnWire_67 fwX4_37 (by first | rfl | assumption) (Nat.le_of_ble_eq_true rfl) rfl (by first | rfl | assumption) ?_
      refine r_iload dX4_layOnWire_70 rfl ?_
      refine r_iload_n dX4_layOnWire_72 rfl rfl ?_
      refine gV2 (Y := mX1_wordOf) (ci := 1) (N := 2) dX4_layOnWire_73 mlX4_98 vkX1_wordOf (by first | rfl | assumption) ⟨by decide, rfl⟩ rfl hw ?_
      refine gW1 (Y := mX4_putBits) (ci := 4) (N := 13) dX4_layOnWire_76 mlX4_104 vkX4_putBits (by first | rfl | assumption) ⟨by decide, rfl⟩ rfl (by rw [← he]; exact g) ?_
      refine r_iload_n dX4_layOnWire_79 rfl rfl ?_
      refine r_iload dX4_layOnWire_80 rfl ?_
      refine r_sipush 252 dX4_layOnWire_82 (by decide) ?_
      refine r_icmp_lt 92 dX4_layOnWire_85 (by decide) (fun c_85 => absurd c_85 h3) (fun c_85 => ?_)
      refine r_iconst 1 dX4_layOnWire_88 (by decide) ?_
      refine r_goto 93 dX4_layOnWire_89 (by decide) ?_
      refine r_icmp_eq 100 dX4_layOnWire_93 (by decide) (fun c_93 => absurd c_93 (by decide)) (fun c_93 => ?_)
      refine r_iconst 1 dX4_layOnWire_96 (by decide) ?_
      refine r_goto 101 dX4_layOnWire_97 (by decide) ?_
      refine r_istore_n2 dX4_layOnWire_101 rfl (Nat.le_of_ble_eq_true rfl) ?_
      refine r_iinc_3 (_ + 1) dX4_layOnWire_102 rfl (Nat.le_of_ble_eq_true rfl) rfl ?_
      refine r_goto 19 dX4_layOnWire_105 (by decide) ?_
      rw [nI_1]
      exact r_weak (by simp [lvle] <;> (repeat' apply And.intro) <;> first | rfl | decide) hq
  · have hx : exF V (w + 1) = exF V w := by
      show Bool.xor _ _ = _
      rw [decide_eq_false h]
      cases exF V w <;> rfl
    rw [hx] at hq
    have h3 : nI (V w) < 252 := nI_lt (a := V w) (b := 252) (by omega) (by decide)
    generalize he : exF V w = e at hq hw ⊢
    cases e with
    | true =>
      refine r_aload_n dX4_layOnWire_65 rfl rfl ?_
      refine r_aload_n dX4_layOnWire_66 rfl rfl ?_
      refine r_getR (N := 13) dX4_layOnWire_67 fwX4_37 (by first | rfl | assumption) (Nat.le_of_ble_eq_true rfl) rfl (by first | rfl | assumption) ?_
      refine r_iload dX4_layOnWire_70 rfl ?_
      refine r_iload_n dX4_layOnWire_72 rfl rfl ?_
      refine gV2 (Y := mX1_wordOf) (ci := 1) (N := 2) dX4_layOnWire_73 mlX4_98 vkX1_wordOf (by first | rfl | assumption) ⟨by decide, rfl⟩ rfl hw ?_
      refine gW1 (Y := mX4_putBits) (ci := 4) (N := 13) dX4_layOnWire_76 mlX4_104 vkX4_putBits (by first | rfl | assumption) ⟨by decide, rfl⟩ rfl (by rw [← he]; exact g) ?_
      refine r_iload_n dX4_layOnWire_79 rfl rfl ?_
      refine r_iload dX4_layOnWire_80 rfl ?_
      refine r_sipush 252 dX4_layOnWire_82 (by decide) ?_
      refine r_icmp_lt 92 dX4_layOnWire_85 (by decide) (fun c_85 => ?_) (fun c_85 => absurd h3 c_85)
      refine r_iconst 0 dX4_layOnWire_92 (by decide) ?_
      refine r_icmp_eq 100 dX4_layOnWire_93 (by decide) (fun c_93 => absurd c_93 (by decide)) (fun c_93 => ?_)
      refine r_iconst 1 dX4_layOnWire_96 (by decide) ?_
      refine r_goto 101 dX4_layOnWire_97 (by decide) ?_
      refine r_istore_n2 dX4_layOnWire_101 rfl (Nat.le_of_ble_eq_true rfl) ?_
      refine r_iinc_3 (_ + 1) dX4_layOnWire_102 rfl (Nat.le_of_ble_eq_true rfl) rfl ?_
      refine r_goto 19 dX4_layOnWire_105 (by decide) ?_
      rw [nI_1]
      exact r_weak (by simp [lvle] <;> (repeat' apply And.intro) <;> first | rfl | decide) hq
    | false =>
      refine r_aload_n dX4_layOnWire_65 rfl rfl ?_
      refine r_aload_n dX4_layOnWire_66 rfl rfl ?_
      refine r_getR (N := 13) dX4_layOnWire_67 fwX4_37 (by first | rfl | assumption) (Nat.le_of_ble_eq_true rfl) rfl (by first | rfl | assumption) ?_
      refine r_iload dX4_layOnWire_70 rfl ?_
      refine r_iload_n dX4_layOnWire_72 rfl rfl ?_
      refine gV2 (Y := mX1_wordOf) (ci := 1) (N := 2) dX4_layOnWire_73 mlX4_98 vkX1_wordOf (by first | rfl | assumption) ⟨by decide, rfl⟩ rfl hw ?_
      refine gW1 (Y := mX4_putBits) (ci := 4) (N := 13) dX4_layOnWire_76 mlX4_104 vkX4_putBits (by first | rfl | assumption) ⟨by decide, rfl⟩ rfl (by rw [← he]; exact g) ?_
      refine r_iload_n dX4_layOnWire_79 rfl rfl ?_
      refine r_iload dX4_layOnWire_80 rfl ?_
      refine r_sipush 252 dX4_layOnWire_82 (by decide) ?_
      refine r_icmp_lt 92 dX4_layOnWire_85 (by decide) (fun c_85 => ?_) (fun c_85 => absurd h3 c_85)
      refine r_iconst 0 dX4_layOnWire_92 (by decide) ?_
      refine r_icmp_eq 100 dX4_layOnWire_93 (by decide) (fun c_93 => ?_) (fun c_93 => absurd rfl c_93)
      refine r_iconst 0 dX4_layOnWire_100 (by decide) ?_
      refine r_istore_n2 dX4_layOnWire_101 rfl (Nat.le_of_ble_eq_true rfl) ?_
      refine r_iinc_3 (_ + 1) dX4_layOnWire_102 rfl (Nat.le_of_ble_eq_true rfl) rfl ?_
      refine r_goto 19 dX4_layOnWire_105 (by decide) ?_
      rw [nI_1]
      exact r_weak (by simp [lvle] <;> (repeat' apply And.intro) <;> first | rfl | decide) hq
theorem nI_m1 {w : Nat} : nI (w + 1) - 1 = nI w := by
  have := pk_sub (a := w + 1) (b := 1) (by omega)
  rw [show w + 1 - 1 = w by omega] at this
  exact this
set_option maxHeartbeats 4000000 in
set_option maxRecDepth 100000 in
theorem x_low_lp {g : Nat → Int32} {N : Nat} {M0 : Mem} (T : TabC M0) (TS : TabS M0) (HB0 : HB M0 6 7 N g) (hg : ∀ j, j < N → okB (g j)) : ∀ (d w : Nat) (M : Mem), w + d = N + 2 → WC M (10 * w) (Vf g N) → FrS [10] [(4, 5)] M0 M → ∃ M', WP mX4_layOnWire 19 [some (.ref 4), some (.int (nI (N + 1))), some (.int (eI (exF (Vf g N) w))), some (.int (nI w)), none] [] 0 0 (shp, rfs, M) (fun r1 h1 => r1 = none ∧ h1 = (shp, rfs, M')) ∧ WC M' (10 * (N + 2)) (Vf g N) ∧ FrS [10] [(4, 5)] M0 M' := by
  have hN := HB0.2.1
  intro d
  induction d with
  | zero =>
    intro w M hw H F
    have hw : w = N + 2 := by omega
    subst hw
    refine ⟨M, ?_, H, F⟩
    refine r_iload_n dX4_layOnWire_19 rfl rfl ?_
    refine r_iload_n dX4_layOnWire_20 rfl rfl ?_
    refine r_icmp_gt 108 dX4_layOnWire_21 (by decide) (fun c_21 => ?_) (fun c_21 => absurd (nI_lt (by omega) (by omega)) c_21)
    refine r_return dX4_layOnWire_108 rfl (Nat.zero_le _) (Nat.zero_le _) ?_
    exact ⟨rfl, rfl⟩
  | succ d ih =>
    intro w M hw H F
    have T1 := T.frS F (by decide) (by decide)
    have TS1 := TS.frS F (by decide) (by decide)
    have hlen : M 6 1 = nI N := by rw [F 6 1 (by decide) (by decide)]; exact HB0.1
    have hV := Vf_lt (g := g) (N := N) (w := w) (by omega) hN hg
    obtain ⟨M1, g1, H1, F1⟩ := x_putBits (V := Vf g N) (m := w) (M := M) (by omega) H
    obtain ⟨M', w', H', F'⟩ := ih (w + 1) M1 (by omega) H1 (F.tr F1)
    refine ⟨M', ?_, H', F'⟩
    have ht := x_low_tail T1 hV g1 w'
    have c21 : ¬ nI (N + 1) < nI w := nI_nlt (by omega) (by omega)
    rcases Nat.eq_zero_or_pos w with h0 | h0
    · subst h0
      have hat := b_at isBy6 (x := -1) hlen hN
      rw [if_pos (by decide)] at hat
      refine r_iload_n dX4_layOnWire_19 rfl rfl ?_
      refine r_iload_n dX4_layOnWire_20 rfl rfl ?_
      refine r_icmp_gt 108 dX4_layOnWire_21 (by decide) (fun c_21 => absurd c_21 c21) (fun c_21 => ?_)
      refine r_aload_n dX4_layOnWire_24 rfl rfl ?_
      refine r_aload_n dX4_layOnWire_25 rfl rfl ?_
      refine r_getR (N := 13) dX4_layOnWire_26 fwX4_18 (by first | rfl | assumption) (Nat.le_of_ble_eq_true rfl) rfl (by first | rfl | assumption) ?_
      refine r_iload_n dX4_layOnWire_29 rfl rfl ?_
      refine r_iconst 1 dX4_layOnWire_30 (by decide) ?_
      refine r_isub dX4_layOnWire_31 ?_
      refine gV1 (Y := mX0_at) (ci := 0) (N := 2) dX4_layOnWire_32 mlX4_91 vkX0_at (by first | rfl | assumption) ⟨by decide, rfl⟩ rfl hat ?_
      refine r_iload_n dX4_layOnWire_35 rfl rfl ?_
      refine r_iconst 1 dX4_layOnWire_36 (by decide) ?_
      refine r_isub dX4_layOnWire_37 ?_
      refine gV2 (Y := mX4_scrambled) (ci := 4) (N := 13) dX4_layOnWire_38 mlX4_94 vkX4_scrambled (by first | rfl | assumption) ⟨by decide, rfl⟩ rfl (x_scr_o (Or.inl (by decide))) ?_
      refine r_istore_4 dX4_layOnWire_41 rfl (Nat.le_of_ble_eq_true rfl) ?_
      refine r_iload_n dX4_layOnWire_43 rfl rfl ?_
      refine r_if_ne 55 dX4_layOnWire_44 (by decide) (fun c_44 => absurd rfl c_44) (fun c_44 => ?_)
      refine r_sipush 256 dX4_layOnWire_47 (by decide) ?_
      refine r_istore_4 dX4_layOnWire_50 rfl (Nat.le_of_ble_eq_true rfl) ?_
      refine r_goto 65 dX4_layOnWire_52 (by decide) ?_
      exact ht
    · obtain ⟨j, rfl⟩ : ∃ j, w = j + 1 := ⟨w - 1, by omega⟩
      have hat := b_at isBy6 (x := nI j) hlen hN
      rw [if_neg (nI_pos (by omega)), hlen, nI_clamp (by omega)] at hat
      have hne0 : ¬ nI (j + 1) = 0 := nI_ne0 (by omega) (by omega)
      by_cases hj : j < N
      · have hv := (Vf_m hj hN (hg j hj)).1
        rw [if_neg (nI_ge hj (by omega)), F 7 j (by decide) (by simp), HB0.2.2 j hj] at hat
        rw [hv] at ht
        refine r_iload_n dX4_layOnWire_19 rfl rfl ?_
        refine r_iload_n dX4_layOnWire_20 rfl rfl ?_
        refine r_icmp_gt 108 dX4_layOnWire_21 (by decide) (fun c_21 => absurd c_21 c21) (fun c_21 => ?_)
        refine r_aload_n dX4_layOnWire_24 rfl rfl ?_
        refine r_aload_n dX4_layOnWire_25 rfl rfl ?_
        refine r_getR (N := 13) dX4_layOnWire_26 fwX4_18 (by first | rfl | assumption) (Nat.le_of_ble_eq_true rfl) rfl (by first | rfl | assumption) ?_
        refine r_iload_n dX4_layOnWire_29 rfl rfl ?_
        refine r_iconst 1 dX4_layOnWire_30 (by decide) ?_
        refine r_isub dX4_layOnWire_31 ?_
        rw [nI_m1]
        refine gV1 (Y := mX0_at) (ci := 0) (N := 2) dX4_layOnWire_32 mlX4_91 vkX0_at (by first | rfl | assumption) ⟨by decide, rfl⟩ rfl hat ?_
        refine r_iload_n dX4_layOnWire_35 rfl rfl ?_
        refine r_iconst 1 dX4_layOnWire_36 (by decide) ?_
        refine r_isub dX4_layOnWire_37 ?_
        rw [nI_m1]
        refine gV2 (Y := mX4_scrambled) (ci := 4) (N := 13) dX4_layOnWire_38 mlX4_94 vkX4_scrambled (by first | rfl | assumption) ⟨by decide, rfl⟩ rfl (x_scr_i TS1 (by omega)) ?_
        refine r_istore_4 dX4_layOnWire_41 rfl (Nat.le_of_ble_eq_true rfl) ?_
        refine r_iload_n dX4_layOnWire_43 rfl rfl ?_
        refine r_if_ne 55 dX4_layOnWire_44 (by decide) (fun c_44 => ?_) (fun c_44 => absurd c_44 hne0)
        refine r_iload_n dX4_layOnWire_55 rfl rfl ?_
        refine r_iload_n dX4_layOnWire_56 rfl rfl ?_
        refine r_icmp_ne 65 dX4_layOnWire_57 (by decide) (fun c_57 => ?_) (fun c_57 => absurd ((nI_eq (by omega) (by omega)).mp c_57) (by omega))
        exact ht
      · have hj : j = N := by omega
        subst hj
        rw [if_pos (nI_le (Nat.le_refl _) (by omega))] at hat
        rw [Vf_l] at ht
        by_cases h16 : j < 16
        · refine r_iload_n dX4_layOnWire_19 rfl rfl ?_
          refine r_iload_n dX4_layOnWire_20 rfl rfl ?_
          refine r_icmp_gt 108 dX4_layOnWire_21 (by decide) (fun c_21 => absurd c_21 c21) (fun c_21 => ?_)
          refine r_aload_n dX4_layOnWire_24 rfl rfl ?_
          refine r_aload_n dX4_layOnWire_25 rfl rfl ?_
          refine r_getR (N := 13) dX4_layOnWire_26 fwX4_18 (by first | rfl | assumption) (Nat.le_of_ble_eq_true rfl) rfl (by first | rfl | assumption) ?_
          refine r_iload_n dX4_layOnWire_29 rfl rfl ?_
          refine r_iconst 1 dX4_layOnWire_30 (by decide) ?_
          refine r_isub dX4_layOnWire_31 ?_
          rw [nI_m1]
          refine gV1 (Y := mX0_at) (ci := 0) (N := 2) dX4_layOnWire_32 mlX4_91 vkX0_at (by first | rfl | assumption) ⟨by decide, rfl⟩ rfl hat ?_
          refine r_iload_n dX4_layOnWire_35 rfl rfl ?_
          refine r_iconst 1 dX4_layOnWire_36 (by decide) ?_
          refine r_isub dX4_layOnWire_37 ?_
          rw [nI_m1]
          refine gV2 (Y := mX4_scrambled) (ci := 4) (N := 13) dX4_layOnWire_38 mlX4_94 vkX4_scrambled (by first | rfl | assumption) ⟨by decide, rfl⟩ rfl (x_scr_i TS1 (by omega)) ?_
          refine r_istore_4 dX4_layOnWire_41 rfl (Nat.le_of_ble_eq_true rfl) ?_
          refine r_iload_n dX4_layOnWire_43 rfl rfl ?_
          refine r_if_ne 55 dX4_layOnWire_44 (by decide) (fun c_44 => ?_) (fun c_44 => absurd c_44 hne0)
          refine r_iload_n dX4_layOnWire_55 rfl rfl ?_
          refine r_iload_n dX4_layOnWire_56 rfl rfl ?_
          refine r_icmp_ne 65 dX4_layOnWire_57 (by decide) (fun c_57 => absurd rfl c_57) (fun c_57 => ?_)
          refine r_sipush 257 dX4_layOnWire_60 (by decide) ?_
          refine r_istore_4 dX4_layOnWire_63 rfl (Nat.le_of_ble_eq_true rfl) ?_
          exact ht
        · refine r_iload_n dX4_layOnWire_19 rfl rfl ?_
          refine r_iload_n dX4_layOnWire_20 rfl rfl ?_
          refine r_icmp_gt 108 dX4_layOnWire_21 (by decide) (fun c_21 => absurd c_21 c21) (fun c_21 => ?_)
          refine r_aload_n dX4_layOnWire_24 rfl rfl ?_
          refine r_aload_n dX4_layOnWire_25 rfl rfl ?_
          refine r_getR (N := 13) dX4_layOnWire_26 fwX4_18 (by first | rfl | assumption) (Nat.le_of_ble_eq_true rfl) rfl (by first | rfl | assumption) ?_
          refine r_iload_n dX4_layOnWire_29 rfl rfl ?_
          refine r_iconst 1 dX4_layOnWire_30 (by decide) ?_
          refine r_isub dX4_layOnWire_31 ?_
          rw [nI_m1]
          refine gV1 (Y := mX0_at) (ci := 0) (N := 2) dX4_layOnWire_32 mlX4_91 vkX0_at (by first | rfl | assumption) ⟨by decide, rfl⟩ rfl hat ?_
          refine r_iload_n dX4_layOnWire_35 rfl rfl ?_
          refine r_iconst 1 dX4_layOnWire_36 (by decide) ?_
          refine r_isub dX4_layOnWire_37 ?_
          rw [nI_m1]
          refine gV2 (Y := mX4_scrambled) (ci := 4) (N := 13) dX4_layOnWire_38 mlX4_94 vkX4_scrambled (by first | rfl | assumption) ⟨by decide, rfl⟩ rfl (x_scr_o (Or.inr (nI_le (by omega) (by omega)))) ?_
          refine r_istore_4 dX4_layOnWire_41 rfl (Nat.le_of_ble_eq_true rfl) ?_
          refine r_iload_n dX4_layOnWire_43 rfl rfl ?_
          refine r_if_ne 55 dX4_layOnWire_44 (by decide) (fun c_44 => ?_) (fun c_44 => absurd c_44 hne0)
          refine r_iload_n dX4_layOnWire_55 rfl rfl ?_
          refine r_iload_n dX4_layOnWire_56 rfl rfl ?_
          refine r_icmp_ne 65 dX4_layOnWire_57 (by decide) (fun c_57 => absurd rfl c_57) (fun c_57 => ?_)
          refine r_sipush 257 dX4_layOnWire_60 (by decide) ?_
          refine r_istore_4 dX4_layOnWire_63 rfl (Nat.le_of_ble_eq_true rfl) ?_
          exact ht
set_option maxHeartbeats 4000000 in
set_option maxRecDepth 100000 in
theorem x_layOnWire {g : Nat → Int32} {N : Nat} {M : Mem} (T : TabC M) (TS : TabS M) (HB0 : HB M 6 7 N g) (hg : ∀ j, j < N → okB (g j)) : ∃ M', Gv mX4_layOnWire [.ref 4] M none M' ∧ WC M' (10 * (N + 2)) (Vf g N) ∧ FrS [10] [(4, 5)] M M' := by
  have F0 : FrS [10] [(4, 5)] M (upd2 M 4 5 0) := FrS.rf.ups (by decide)
  obtain ⟨M', w, H, F⟩ := x_low_lp (T.frS F0 (by decide) (by decide)) (TS.frS F0 (by decide) (by decide)) (M0 := upd2 M 4 5 0) (N := N) (g := g) ⟨by rw [u_nn (by decide)]; exact HB0.1, HB0.2.1, fun j q => by rw [u_nn (by decide)]; exact HB0.2.2 j q⟩ hg (N + 2) 0 (upd2 M 4 5 0) (by omega) ⟨u_ss, fun j hj => absurd hj (by omega)⟩ FrS.rf
  refine ⟨M', ?_, H, F0.tr F⟩
  have hs := b_size (M := M) isBy6
  rw [HB0.1] at hs
  refine con_of (lv := [some (.ref 4), none, none, none, none]) (by decide) rfl (Nat.le_of_ble_eq_true rfl) (by simp [lvle]) ?_
  refine r_aload_n dX4_layOnWire_0 rfl rfl ?_
  refine r_getR (N := 13) dX4_layOnWire_1 fwX4_18 (by first | rfl | assumption) (Nat.le_of_ble_eq_true rfl) rfl (by first | rfl | assumption) ?_
  refine gV0 (Y := mX0_size) (ci := 0) (N := 2) dX4_layOnWire_4 mlX4_68 vkX0_size (by first | rfl | assumption) ⟨by decide, rfl⟩ rfl hs ?_
  refine r_iconst 1 dX4_layOnWire_7 (by decide) ?_
  refine r_iadd dX4_layOnWire_8 ?_
  refine r_istore_n1 dX4_layOnWire_9 rfl (Nat.le_of_ble_eq_true rfl) ?_
  refine r_iconst 0 dX4_layOnWire_10 (by decide) ?_
  refine r_istore_n2 dX4_layOnWire_11 rfl (Nat.le_of_ble_eq_true rfl) ?_
  refine r_aload_n dX4_layOnWire_12 rfl rfl ?_
  refine r_iconst 0 dX4_layOnWire_13 (by decide) ?_
  refine r_putI (N := 13) dX4_layOnWire_14 fwX4_43 (by first | rfl | assumption) (Nat.le_of_ble_eq_true rfl) rfl (Or.inl rfl) rfl rfl ?_
  refine r_iconst 0 dX4_layOnWire_17 (by decide) ?_
  refine r_istore_n3 dX4_layOnWire_18 rfl (Nat.le_of_ble_eq_true rfl) ?_
  rw [nI_1]
  exact w
end
section
def setRow (M : Mem) (a : Nat) (f : Nat → Int32) : Mem := fun b => if b = a then f else M b
theorem sr_s (M : Mem) (a : Nat) (f : Nat → Int32) : setRow M a f a = f := by simp [setRow]
theorem sr_n {M : Mem} {a b : Nat} {f : Nat → Int32} (h : b ≠ a) : setRow M a f b = M b := by simp [setRow, h]
theorem sr_u (M : Mem) (a k : Nat) (f : Nat → Int32) (x : Int32) : upd2 (setRow M a f) a k x = setRow M a (upd f k x) := by
  funext b
  by_cases h : b = a
  · subst h; rw [upd2_s, sr_s, sr_s]
  · rw [upd2_n h, sr_n h, sr_n h]
theorem sr_id (M : Mem) (a : Nat) : setRow M a (M a) = M := by
  funext b
  by_cases h : b = a
  · subst h; rw [sr_s]
  · rw [sr_n h]
def fat (FB : Nat → Int32) (nb k : Nat) : Nat := (FB k - FB k / nI nb * nI nb).toNatClampNeg
def flt (FF FB : Nat → Int32) (fr : Int32) (nb : Nat) : Nat → (Nat → Int32) → Nat → Int32
  | 0, f => f
  | k + 1, f => if FF k = fr then upd (flt FF FB fr nb k f) (fat FB nb k) (1 - flt FF FB fr nb k f (fat FB nb k)) else flt FF FB fr nb k f
theorem fat_ok {FB : Nat → Int32} {nb k : Nat} (h0 : 0 < nb) (hn : nb ≤ 180) (h : ∃ b, b ≤ 1000000 ∧ FB k = nI b) : FB k - FB k / nI nb * nI nb = nI (fat FB nb k) ∧ fat FB nb k < nb := by
  obtain ⟨b, hb, he⟩ := h
  have h1 := pk_rem (a := b) (d := nb) (by omega) h0 (by omega)
  have h2 : b % nb < nb := Nat.mod_lt _ h0
  unfold fat
  rw [he, h1, nI_clamp (by omega)]
  exact ⟨rfl, h2⟩
theorem flt_congr {FF FF' FB FB' : Nat → Int32} {fr : Int32} {nb : Nat} {f f' : Nat → Int32} (h0 : 0 < nb) (hn : nb ≤ 180) (hf : ∀ j, j < nb → f j = f' j) : ∀ k, (∀ j, j < k → FF j = FF' j ∧ FB j = FB' j ∧ ∃ b, b ≤ 1000000 ∧ FB j = nI b) → ∀ j, j < nb → flt FF FB fr nb k f j = flt FF' FB' fr nb k f' j
  | 0, _, j, hj => hf j hj
  | k + 1, h, j, hj => by
    have ih := flt_congr (FF := FF) (FF' := FF') (FB := FB) (FB' := FB') (fr := fr) h0 hn hf k (fun j q => h j (by omega))
    obtain ⟨h1, h2, h3⟩ := h k (by omega)
    have h4 : fat FB nb k = fat FB' nb k := by unfold fat; rw [h2]
    have h5 := (fat_ok h0 hn h3).2
    simp only [flt]
    rw [← h1]
    by_cases hq : FF k = fr
    · rw [if_pos hq, if_pos hq, ← h4, ih _ h5]
      by_cases hz : j = fat FB nb k
      · subst hz; rw [upd_s, upd_s]
      · rw [upd_n hz, upd_n hz]; exact ih j hj
    · rw [if_neg hq, if_neg hq]; exact ih j hj
set_option maxHeartbeats 4000000 in
set_option maxRecDepth 100000 in
theorem x_turn_lp {M : Mem} {nb nf : Nat} (h0 : 0 < nb) (hn : nb ≤ 180) (hb : M 4 5 = nI nb) (hf : M 4 8 = nI nf) (hf2 : nf ≤ 30) (hp : ∀ j, j < nf → ∃ b, b ≤ 1000000 ∧ M 12 j = nI b) : ∀ (d k : Nat), k + d = nf → WP mX4_turnFaultyBits 2 [some (.ref 4), some (.int (nI k)), none] [] 0 0 (shp, rfs, setRow M 10 (flt (M 11) (M 12) (M 4 10) nb k (M 10))) (fun r1 h1 => r1 = none ∧ h1 = (shp, rfs, setRow M 10 (flt (M 11) (M 12) (M 4 10) nb nf (M 10)))) := by
  intro d
  induction d with
  | zero =>
    intro k hk
    have hk : k = nf := by omega
    subst hk
    refine r_iload_n dX4_turnFaultyBits_2 rfl rfl ?_
    refine r_aload_n dX4_turnFaultyBits_3 rfl rfl ?_
    refine r_getI (N := 13) dX4_turnFaultyBits_4 fwX4_54 (by first | rfl | assumption) (Nat.le_of_ble_eq_true rfl) rfl ?_
    refine r_icmp_ge 62 dX4_turnFaultyBits_7 (by decide) (fun c_7 => ?_) (fun c_7 => absurd (by rw [sr_n (by decide), hf]; exact nI_le (Nat.le_refl _) (by omega)) c_7)
    refine r_return dX4_turnFaultyBits_62 rfl (Nat.zero_le _) (Nat.zero_le _) ?_
    exact ⟨rfl, rfl⟩
  | succ d ih =>
    intro k hk
    have hcl : (nI k).toNatClampNeg = k := nI_clamp (by omega)
    obtain ⟨e1, e2⟩ := fat_ok h0 hn (hp k (by omega))
    have e3 : (nI (fat (M 12) nb k)).toNatClampNeg = fat (M 12) nb k := nI_clamp (by omega)
    have i1 := ih (k + 1) (by omega)
    simp only [flt] at i1
    refine r_iload_n dX4_turnFaultyBits_2 rfl rfl ?_
    refine r_aload_n dX4_turnFaultyBits_3 rfl rfl ?_
    refine r_getI (N := 13) dX4_turnFaultyBits_4 fwX4_54 (by first | rfl | assumption) (Nat.le_of_ble_eq_true rfl) rfl ?_
    refine r_icmp_ge 62 dX4_turnFaultyBits_7 (by decide) (fun c_7 => absurd c_7 (by rw [sr_n (by decide), hf]; exact nI_ge (by omega) (by omega))) (fun c_7 => ?_)
    refine r_aload_n dX4_turnFaultyBits_10 rfl rfl ?_
    refine r_getR (N := 13) dX4_turnFaultyBits_11 fwX4_28 (by first | rfl | assumption) (Nat.le_of_ble_eq_true rfl) rfl (by first | rfl | assumption) ?_
    refine r_iload_n dX4_turnFaultyBits_14 rfl rfl ?_
    refine r_iaload dX4_turnFaultyBits_15 (by first | rfl | assumption) (by exact vp_in_nI (by omega) (by decide)) ?_
    refine r_aload_n dX4_turnFaultyBits_16 rfl rfl ?_
    refine r_getI (N := 13) dX4_turnFaultyBits_17 fwX4_47 (by first | rfl | assumption) (Nat.le_of_ble_eq_true rfl) rfl ?_
    refine r_icmp_ne 56 dX4_turnFaultyBits_20 (by decide) (fun c_20 => ?_) (fun c_20 => ?_)
    · refine r_iinc_1 (_ + 1) dX4_turnFaultyBits_56 rfl (Nat.le_of_ble_eq_true rfl) rfl ?_
      refine r_goto 2 dX4_turnFaultyBits_59 (by decide) ?_
      rw [nI_1]
      rw [hcl, sr_n (by decide), sr_n (by decide)] at c_20
      first | (rw [if_neg c_20] at i1; exact i1) | (rw [if_pos c_20] at i1; rw [e3, sr_s, sr_u]; exact r_weak (by simp [lvle] <;> (repeat' apply And.intro) <;> first | rfl | decide) i1)
    · refine r_aload_n dX4_turnFaultyBits_23 rfl rfl ?_
      refine r_getI (N := 13) dX4_turnFaultyBits_24 fwX4_43 (by first | rfl | assumption) (Nat.le_of_ble_eq_true rfl) rfl ?_
      refine r_if_le 56 dX4_turnFaultyBits_27 (by decide) (fun c_27 => absurd c_27 (by rw [sr_n (by decide), hb]; exact nI_nle h0 (by omega))) (fun c_27 => ?_)
      refine r_aload_n dX4_turnFaultyBits_30 rfl rfl ?_
      refine r_getR (N := 13) dX4_turnFaultyBits_31 fwX4_31 (by first | rfl | assumption) (Nat.le_of_ble_eq_true rfl) rfl (by first | rfl | assumption) ?_
      refine r_iload_n dX4_turnFaultyBits_34 rfl rfl ?_
      refine r_iaload dX4_turnFaultyBits_35 (by first | rfl | assumption) (by exact vp_in_nI (by omega) (by decide)) ?_
      refine r_aload_n dX4_turnFaultyBits_36 rfl rfl ?_
      refine r_getI (N := 13) dX4_turnFaultyBits_37 fwX4_43 (by first | rfl | assumption) (Nat.le_of_ble_eq_true rfl) rfl ?_
      refine r_irem dX4_turnFaultyBits_40 (by rw [sr_n (by decide), hb]; exact nI_ne0 h0 (by omega)) ?_
      rw [sr_n (a := 10) (b := 12) (by decide), sr_n (a := 10) (b := 4) (by decide), hb, hcl, e1]
      refine r_istore_n2 dX4_turnFaultyBits_41 rfl (Nat.le_of_ble_eq_true rfl) ?_
      refine r_aload_n dX4_turnFaultyBits_42 rfl rfl ?_
      refine r_getR (N := 13) dX4_turnFaultyBits_43 fwX4_25 (by first | rfl | assumption) (Nat.le_of_ble_eq_true rfl) rfl (by first | rfl | assumption) ?_
      refine r_iload_n dX4_turnFaultyBits_46 rfl rfl ?_
      refine r_iconst 1 dX4_turnFaultyBits_47 (by decide) ?_
      refine r_aload_n dX4_turnFaultyBits_48 rfl rfl ?_
      refine r_getR (N := 13) dX4_turnFaultyBits_49 fwX4_25 (by first | rfl | assumption) (Nat.le_of_ble_eq_true rfl) rfl (by first | rfl | assumption) ?_
      refine r_iload_n dX4_turnFaultyBits_52 rfl rfl ?_
      refine r_iaload dX4_turnFaultyBits_53 (by first | rfl | assumption) (by exact vp_in_nI (by omega) (by decide)) ?_
      refine r_isub dX4_turnFaultyBits_54 ?_
      refine r_iastore dX4_turnFaultyBits_55 (by first | rfl | assumption) (by exact vp_in_nI (by omega) (by decide)) ?_
      refine r_iinc_1 (_ + 1) dX4_turnFaultyBits_56 rfl (Nat.le_of_ble_eq_true rfl) rfl ?_
      refine r_goto 2 dX4_turnFaultyBits_59 (by decide) ?_
      rw [nI_1]
      rw [hcl, sr_n (by decide), sr_n (by decide)] at c_20
      first | (rw [if_neg c_20] at i1; exact i1) | (rw [if_pos c_20] at i1; rw [e3, sr_s, sr_u]; exact r_weak (by simp [lvle] <;> (repeat' apply And.intro) <;> first | rfl | decide) i1)
set_option maxHeartbeats 4000000 in
set_option maxRecDepth 100000 in
theorem x_turn {M : Mem} {nb nf : Nat} (h0 : 0 < nb) (hn : nb ≤ 180) (hb : M 4 5 = nI nb) (hf : M 4 8 = nI nf) (hf2 : nf ≤ 30) (hp : ∀ j, j < nf → ∃ b, b ≤ 1000000 ∧ M 12 j = nI b) : Gv mX4_turnFaultyBits [.ref 4] M none (setRow M 10 (flt (M 11) (M 12) (M 4 10) nb nf (M 10))) := by
  have h := x_turn_lp h0 hn hb hf hf2 hp nf 0 (by omega)
  rw [show flt (M 11) (M 12) (M 4 10) nb 0 (M 10) = M 10 from rfl, sr_id] at h
  refine con_of (lv := [some (.ref 4), none, none]) (by decide) rfl (Nat.le_of_ble_eq_true rfl) (by simp [lvle]) ?_
  refine r_iconst 0 dX4_turnFaultyBits_0 (by decide) ?_
  refine r_istore_n1 dX4_turnFaultyBits_1 rfl (Nat.le_of_ble_eq_true rfl) ?_
  exact h
set_option maxHeartbeats 4000000 in
set_option maxRecDepth 100000 in
theorem m_turn_lp {M : Mem} {nb nf : Nat} {c : Option Value} (h0 : 0 < nb) (hn : nb ≤ 180) (hb : M 40 12 = nI nb) (hf : M 40 5 = nI nf) (hf2 : nf ≤ 30) (hp : ∀ j, j < nf → ∃ b, b ≤ 1000000 ∧ M 46 j = nI b) : ∀ (d k : Nat), k + d = nf → WP mX6_layWire 108 [some (.ref 40), none, some (.int (nI k)), none] [] 0 0 (shp, rfs, setRow M 48 (flt (M 45) (M 46) (M 40 8) nb k (M 48))) (fun r1 h1 => r1 = none ∧ h1 = (shp, rfs, setRow M 48 (flt (M 45) (M 46) (M 40 8) nb nf (M 48)))) := by
  intro d
  induction d with
  | zero =>
    intro k hk
    have hk : k = nf := by omega
    subst hk
    refine r_iload_n dX6_layWire_108 rfl rfl ?_
    refine r_aload_n dX6_layWire_109 rfl rfl ?_
    refine r_getI (N := 35) dX6_layWire_110 fwX6_132 (by first | rfl | assumption) (Nat.le_of_ble_eq_true rfl) rfl ?_
    refine r_icmp_ge 161 dX6_layWire_113 (by decide) (fun c_113 => ?_) (fun c_113 => absurd (by rw [sr_n (by decide), hf]; exact nI_le (Nat.le_refl _) (by omega)) c_113)
    refine r_return dX6_layWire_161 rfl (Nat.zero_le _) (Nat.zero_le _) ?_
    exact ⟨rfl, rfl⟩
  | succ d ih =>
    intro k hk
    have hcl : (nI k).toNatClampNeg = k := nI_clamp (by omega)
    obtain ⟨e1, e2⟩ := fat_ok h0 hn (hp k (by omega))
    have e3 : (nI (fat (M 46) nb k)).toNatClampNeg = fat (M 46) nb k := nI_clamp (by omega)
    have i1 := ih (k + 1) (by omega)
    simp only [flt] at i1
    refine r_iload_n dX6_layWire_108 rfl rfl ?_
    refine r_aload_n dX6_layWire_109 rfl rfl ?_
    refine r_getI (N := 35) dX6_layWire_110 fwX6_132 (by first | rfl | assumption) (Nat.le_of_ble_eq_true rfl) rfl ?_
    refine r_icmp_ge 161 dX6_layWire_113 (by decide) (fun c_113 => absurd c_113 (by rw [sr_n (by decide), hf]; exact nI_ge (by omega) (by omega))) (fun c_113 => ?_)
    refine r_aload_n dX6_layWire_116 rfl rfl ?_
    refine r_getR (N := 35) dX6_layWire_117 fwX6_22 (by first | rfl | assumption) (Nat.le_of_ble_eq_true rfl) rfl (by first | rfl | assumption) ?_
    refine r_iload_n dX6_layWire_120 rfl rfl ?_
    refine r_iaload dX6_layWire_121 (by first | rfl | assumption) (by exact vp_in_nI (by omega) (by decide)) ?_
    refine r_aload_n dX6_layWire_122 rfl rfl ?_
    refine r_getI (N := 35) dX6_layWire_123 fwX6_135 (by first | rfl | assumption) (Nat.le_of_ble_eq_true rfl) rfl ?_
    refine r_icmp_ne 155 dX6_layWire_126 (by decide) (fun c_126 => ?_) (fun c_126 => ?_)
    · refine r_iinc_2 (_ + 1) dX6_layWire_155 rfl (Nat.le_of_ble_eq_true rfl) rfl ?_
      refine r_goto 108 dX6_layWire_158 (by decide) ?_
      rw [nI_1]
      rw [hcl, sr_n (by decide), sr_n (by decide)] at c_126
      first | (rw [if_neg c_126] at i1; exact i1) | (rw [if_pos c_126] at i1; rw [e3, sr_s, sr_u]; exact r_weak (by simp [lvle] <;> (repeat' apply And.intro) <;> first | rfl | decide) i1)
    · refine r_aload_n dX6_layWire_129 rfl rfl ?_
      refine r_getR (N := 35) dX6_layWire_130 fwX6_25 (by first | rfl | assumption) (Nat.le_of_ble_eq_true rfl) rfl (by first | rfl | assumption) ?_
      refine r_iload_n dX6_layWire_133 rfl rfl ?_
      refine r_iaload dX6_layWire_134 (by first | rfl | assumption) (by exact vp_in_nI (by omega) (by decide)) ?_
      refine r_aload_n dX6_layWire_135 rfl rfl ?_
      refine r_getI (N := 35) dX6_layWire_136 fwX6_118 (by first | rfl | assumption) (Nat.le_of_ble_eq_true rfl) rfl ?_
      refine r_irem dX6_layWire_139 (by rw [sr_n (by decide), hb]; exact nI_ne0 h0 (by omega)) ?_
      rw [sr_n (a := 48) (b := 46) (by decide), sr_n (a := 48) (b := 40) (by decide), hb, hcl, e1]
      refine r_istore_n3 dX6_layWire_140 rfl (Nat.le_of_ble_eq_true rfl) ?_
      refine r_aload_n dX6_layWire_141 rfl rfl ?_
      refine r_getR (N := 35) dX6_layWire_142 fwX6_31 (by first | rfl | assumption) (Nat.le_of_ble_eq_true rfl) rfl (by first | rfl | assumption) ?_
      refine r_iload_n dX6_layWire_145 rfl rfl ?_
      refine r_iconst 1 dX6_layWire_146 (by decide) ?_
      refine r_aload_n dX6_layWire_147 rfl rfl ?_
      refine r_getR (N := 35) dX6_layWire_148 fwX6_31 (by first | rfl | assumption) (Nat.le_of_ble_eq_true rfl) rfl (by first | rfl | assumption) ?_
      refine r_iload_n dX6_layWire_151 rfl rfl ?_
      refine r_iaload dX6_layWire_152 (by first | rfl | assumption) (by exact vp_in_nI (by omega) (by decide)) ?_
      refine r_isub dX6_layWire_153 ?_
      refine r_iastore dX6_layWire_154 (by first | rfl | assumption) (by exact vp_in_nI (by omega) (by decide)) ?_
      refine r_iinc_2 (_ + 1) dX6_layWire_155 rfl (Nat.le_of_ble_eq_true rfl) rfl ?_
      refine r_goto 108 dX6_layWire_158 (by decide) ?_
      rw [nI_1]
      rw [hcl, sr_n (by decide), sr_n (by decide)] at c_126
      first | (rw [if_neg c_126] at i1; exact i1) | (rw [if_pos c_126] at i1; rw [e3, sr_s, sr_u]; exact r_weak (by simp [lvle] <;> (repeat' apply And.intro) <;> first | rfl | decide) i1)
theorem bb_hi {p : Nat → Int32} {n q : Nat} : bb p n (n + q) = nby (crcN p n) q := by
  unfold bb
  rw [if_neg (by omega), show n + q - n = q by omega]
theorem bb_lo {p : Nat → Int32} {n j : Nat} (h : j < n) : bb p n j = p j := if_pos h
theorem nby_ok (x : Int32) (q : Nat) : okB (nby x q) := okB_and _
theorem bb_ok {p : Nat → Int32} {n : Nat} (h : ∀ j, j < n → okB (p j)) (j : Nat) : okB (bb p n j) := by
  unfold bb
  split
  · exact h j (by assumption)
  · exact nby_ok _ _
set_option maxHeartbeats 4000000 in
set_option maxRecDepth 100000 in
theorem m_lay_lp {p : Nat → Int32} {n : Nat} {M0 : Mem} (T : TabM M0) (hn : n ≤ 12) (hs : M0 40 14 = nI n) (hp : ∀ j, j < n → M0 49 j = p j) (hok : ∀ j, j < n → okB (p j)) : ∀ (d k : Nat) (M : Mem), k + d = n + 4 → WM M (10 * (k + 1)) (Vf (bb p n) (n + 4)) → M 40 34 = eI (exF (Vf (bb p n) (n + 4)) (k + 1)) → M 40 33 = rS k → FrS [48] [(40, 12), (40, 34), (40, 33)] M0 M → ∃ M', (∀ Q, WP mX6_layWire 99 [some (.ref 40), none, none, none] [] 0 0 (shp, rfs, M') Q → WP mX6_layWire 38 [some (.ref 40), some (.int (crcN p n)), some (.int (nI k)), none] [] 0 0 (shp, rfs, M) Q) ∧ WM M' (10 * (n + 5)) (Vf (bb p n) (n + 4)) ∧ M' 40 34 = eI (exF (Vf (bb p n) (n + 4)) (n + 5)) ∧ FrS [48] [(40, 12), (40, 34), (40, 33)] M0 M' := by
  intro d
  induction d with
  | zero =>
    intro k M hk H He Hr F
    have hk : k = n + 4 := by omega
    subst hk
    refine ⟨M, fun Q hq => ?_, H, He, F⟩
    have hs1 : M 40 14 + 4 = nI (n + 4) := by rw [F 40 14 (by decide) (by decide), hs]; exact nI_add n 4
    refine r_iload_n dX6_layWire_38 rfl rfl ?_
    refine r_aload_n dX6_layWire_39 rfl rfl ?_
    refine r_getI (N := 35) dX6_layWire_40 fwX6_125 (by first | rfl | assumption) (Nat.le_of_ble_eq_true rfl) rfl ?_
    refine r_iconst 4 dX6_layWire_43 (by decide) ?_
    refine r_iadd dX6_layWire_44 ?_
    rw [hs1]
    refine r_icmp_ge 99 dX6_layWire_45 (by decide) (fun c_45 => ?_) (fun c_45 => absurd (nI_le (Nat.le_refl _) (by omega)) c_45)
    exact r_weak (by simp [lvle] <;> (repeat' apply And.intro) <;> first | rfl | decide) hq
  | succ d ih =>
    intro k M hk H He Hr F
    have hcl : (nI k).toNatClampNeg = k := nI_clamp (by omega)
    have hs0 : M 40 14 = nI n := by rw [F 40 14 (by decide) (by decide), hs]
    have hs1 : nI n + 4 = nI (n + 4) := nI_add n 4
    have hV := Vf_m (g := bb p n) (N := n + 4) (j := k) (by omega) (by omega) (bb_ok hok k)
    have g1 := m_nextScramble (i := k) (by omega) Hr
    have F1 : FrS [48] [(40, 12), (40, 34), (40, 33)] M0 (upd2 M 40 33 (rS (k + 1))) := F.ups (by decide)
    obtain ⟨M2, g2, H2, He2, F2⟩ := m_wireWord (V := Vf (bb p n) (n + 4)) (m := k + 1) (M := upd2 M 40 33 (rS (k + 1))) (T.frS F1 (by decide) (by decide)) (by omega) ⟨by rw [u_sn (by decide)]; exact H.1, fun j q => by rw [u_nn (by decide)]; exact H.2 j q⟩ (by rw [u_sn (by decide)]; exact He) (by omega)
    rw [hV.1] at g2
    obtain ⟨M', w, H', He', F'⟩ := ih (k + 1) M2 (by omega) H2 He2 (by rw [F2 40 33 (by decide) (by decide), u_ss]) (F1.tr (F2.mono (by decide) (by decide)))
    refine ⟨M', fun Q hq => ?_, H', He', F'⟩
    by_cases hkn : k < n
    · rw [bb_lo hkn] at g2
      have hpk : M 49 k = p k := by rw [F 49 k (by decide) (by simp), hp k hkn]
      refine r_iload_n dX6_layWire_38 rfl rfl ?_
      refine r_aload_n dX6_layWire_39 rfl rfl ?_
      refine r_getI (N := 35) dX6_layWire_40 fwX6_125 (by first | rfl | assumption) (Nat.le_of_ble_eq_true rfl) rfl ?_
      refine r_iconst 4 dX6_layWire_43 (by decide) ?_
      refine r_iadd dX6_layWire_44 ?_
      rw [hs0, hs1]
      refine r_icmp_ge 99 dX6_layWire_45 (by decide) (fun c_45 => absurd c_45 (nI_ge (by omega) (by omega))) (fun c_45 => ?_)
      refine r_iload_n dX6_layWire_48 rfl rfl ?_
      refine r_aload_n dX6_layWire_49 rfl rfl ?_
      refine r_getI (N := 35) dX6_layWire_50 fwX6_125 (by first | rfl | assumption) (Nat.le_of_ble_eq_true rfl) rfl ?_
      rw [hs0]
      refine r_icmp_ge 65 dX6_layWire_53 (by decide) (fun c_53 => absurd c_53 (nI_ge (by omega) (by omega))) (fun c_53 => ?_)
      refine r_aload_n dX6_layWire_56 rfl rfl ?_
      refine r_getR (N := 35) dX6_layWire_57 fwX6_34 (by first | rfl | assumption) (Nat.le_of_ble_eq_true rfl) rfl (by first | rfl | assumption) ?_
      refine r_iload_n dX6_layWire_60 rfl rfl ?_
      refine r_iaload dX6_layWire_61 (by first | rfl | assumption) (by exact vp_in_nI (by omega) (by decide)) ?_
      refine r_goto 82 dX6_layWire_62 (by decide) ?_
      rw [hcl, hpk]
      refine r_istore_n3 dX6_layWire_82 rfl (Nat.le_of_ble_eq_true rfl) ?_
      refine r_aload_n dX6_layWire_83 rfl rfl ?_
      refine r_iload_n dX6_layWire_84 rfl rfl ?_
      refine r_aload_n dX6_layWire_85 rfl rfl ?_
      refine gV0 (Y := mX6_nextScramble) (ci := 6) (N := 35) dX6_layWire_86 mlX6_128 vkX6_nextScramble (by first | rfl | assumption) ⟨by decide, rfl⟩ rfl g1 ?_
      refine r_ixor dX6_layWire_89 ?_
      refine gW1 (Y := mX6_wireWord) (ci := 6) (N := 35) dX6_layWire_90 mlX6_121 vkX6_wireWord (by first | rfl | assumption) ⟨by decide, rfl⟩ rfl g2 ?_
      refine r_iinc_2 (_ + 1) dX6_layWire_93 rfl (Nat.le_of_ble_eq_true rfl) rfl ?_
      refine r_goto 38 dX6_layWire_96 (by decide) ?_
      rw [nI_1]
      exact r_weak (by simp [lvle] <;> (repeat' apply And.intro) <;> first | rfl | decide) (w Q hq)
    · obtain ⟨q, rfl⟩ : ∃ q, k = n + q := ⟨k - n, by omega⟩
      rw [bb_hi] at g2
      have hsh : 8 * (nI n + 3 - nI (n + q)) = nI (24 - 8 * q) := by
        rw [show nI n + 3 = nI (n + 3) from nI_add n 3, pk_sub (by omega)]
        rw [show (8 : Int32) * nI (n + 3 - (n + q)) = nI (8 * (n + 3 - (n + q))) from pk_mul 8 _]
        congr 1
        omega
      refine r_iload_n dX6_layWire_38 rfl rfl ?_
      refine r_aload_n dX6_layWire_39 rfl rfl ?_
      refine r_getI (N := 35) dX6_layWire_40 fwX6_125 (by first | rfl | assumption) (Nat.le_of_ble_eq_true rfl) rfl ?_
      refine r_iconst 4 dX6_layWire_43 (by decide) ?_
      refine r_iadd dX6_layWire_44 ?_
      rw [hs0, hs1]
      refine r_icmp_ge 99 dX6_layWire_45 (by decide) (fun c_45 => absurd c_45 (nI_ge (by omega) (by omega))) (fun c_45 => ?_)
      refine r_iload_n dX6_layWire_48 rfl rfl ?_
      refine r_aload_n dX6_layWire_49 rfl rfl ?_
      refine r_getI (N := 35) dX6_layWire_50 fwX6_125 (by first | rfl | assumption) (Nat.le_of_ble_eq_true rfl) rfl ?_
      rw [hs0]
      refine r_icmp_ge 65 dX6_layWire_53 (by decide) (fun c_53 => ?_) (fun c_53 => absurd (nI_le (by omega) (by omega)) c_53)
      refine r_iload_n dX6_layWire_65 rfl rfl ?_
      refine r_bipush 8 dX6_layWire_66 (by decide) ?_
      refine r_aload_n dX6_layWire_68 rfl rfl ?_
      refine r_getI (N := 35) dX6_layWire_69 fwX6_125 (by first | rfl | assumption) (Nat.le_of_ble_eq_true rfl) rfl ?_
      refine r_iconst 3 dX6_layWire_72 (by decide) ?_
      refine r_iadd dX6_layWire_73 ?_
      refine r_iload_n dX6_layWire_74 rfl rfl ?_
      refine r_isub dX6_layWire_75 ?_
      refine r_imul dX6_layWire_76 ?_
      rw [hs0, hsh]
      refine r_iushr dX6_layWire_77 ?_
      refine r_sipush 255 dX6_layWire_78 (by decide) ?_
      refine r_iand dX6_layWire_81 ?_
      refine r_istore_n3 dX6_layWire_82 rfl (Nat.le_of_ble_eq_true rfl) ?_
      refine r_aload_n dX6_layWire_83 rfl rfl ?_
      refine r_iload_n dX6_layWire_84 rfl rfl ?_
      refine r_aload_n dX6_layWire_85 rfl rfl ?_
      refine gV0 (Y := mX6_nextScramble) (ci := 6) (N := 35) dX6_layWire_86 mlX6_128 vkX6_nextScramble (by first | rfl | assumption) ⟨by decide, rfl⟩ rfl g1 ?_
      refine r_ixor dX6_layWire_89 ?_
      refine gW1 (Y := mX6_wireWord) (ci := 6) (N := 35) dX6_layWire_90 mlX6_121 vkX6_wireWord (by first | rfl | assumption) ⟨by decide, rfl⟩ rfl g2 ?_
      refine r_iinc_2 (_ + 1) dX6_layWire_93 rfl (Nat.le_of_ble_eq_true rfl) rfl ?_
      refine r_goto 38 dX6_layWire_96 (by decide) ?_
      rw [nI_1]
      exact r_weak (by simp [lvle] <;> (repeat' apply And.intro) <;> first | rfl | decide) (w Q hq)
set_option maxHeartbeats 4000000 in
set_option maxRecDepth 100000 in
theorem m_layWire {p : Nat → Int32} {n nf : Nat} {M : Mem} (T : TabM M) (hn : n ≤ 12) (hs : M 40 14 = nI n) (hp : ∀ j, j < n → M 49 j = p j) (hok : ∀ j, j < n → okB (p j)) (hf : M 40 5 = nI nf) (hf2 : nf ≤ 30) (hfp : ∀ j, j < nf → ∃ b, b ≤ 1000000 ∧ M 46 j = nI b) : ∃ M', Gv mX6_layWire [.ref 40] M none M' ∧ M' 40 12 = nI (10 * (n + 6)) ∧ (∀ j, j < 10 * (n + 6) → M' 48 j = flt (M 45) (M 46) (M 40 8) (10 * (n + 6)) nf (btF (Vf (bb p n) (n + 4))) j) ∧ FrS [48] [(40, 12), (40, 34), (40, 33)] M M' := by
  have F0 : FrS [48] [(40, 12), (40, 34), (40, 33)] M (upd2 (upd2 (upd2 M 40 12 0) 40 34 0) 40 33 65535) := ((FrS.rf.ups (by decide)).ups (by decide)).ups (by decide)
  obtain ⟨M1, g1, H1, He1, F1⟩ := m_wireWord (V := Vf (bb p n) (n + 4)) (m := 0) (M := upd2 (upd2 (upd2 M 40 12 0) 40 34 0) 40 33 65535) (T.frS F0 (by decide) (by decide)) (by omega) ⟨by rw [u_sn (by decide), u_sn (by decide), u_ss]; rfl, fun j q => absurd q (by omega)⟩ (by rw [u_sn (by decide), u_ss]; rfl) (by rw [Vf_0]; omega)
  rw [Vf_0] at g1
  have F01 : FrS [48] [(40, 12), (40, 34), (40, 33)] M M1 := F0.tr (F1.mono (by decide) (by decide))
  have hr1 : M1 40 33 = rS 0 := by rw [F1 40 33 (by decide) (by decide), u_ss]; rfl
  obtain ⟨M2, w2, H2, He2, F2⟩ := m_lay_lp (M0 := M1) (p := p) (n := n) (T.frS F01 (by decide) (by decide)) hn (by rw [F01 40 14 (by decide) (by decide), hs]) (fun j q => by rw [F01 49 j (by decide) (by simp), hp j q]) hok (n + 4) 0 M1 (by omega) H1 He1 hr1 FrS.rf
  have F02 := F01.tr F2
  obtain ⟨M3, g3, H3, He3, F3⟩ := m_wireWord (V := Vf (bb p n) (n + 4)) (m := n + 5) (M := M2) (T.frS F02 (by decide) (by decide)) (by omega) H2 He2 (by rw [Vf_l]; omega)
  rw [Vf_l] at g3
  have F03 := F02.tr (F3.mono (cs' := [48]) (ss' := [(40, 12), (40, 34), (40, 33)]) (by decide) (by decide))
  have r45 : M3 45 = M 45 := F03.row (by decide) (by simp)
  have r46 : M3 46 = M 46 := F03.row (by decide) (by simp)
  have r8 : M3 40 8 = M 40 8 := F03 40 8 (by decide) (by decide)
  have ht := m_turn_lp (M := M3) (c := none) (nb := 10 * (n + 6)) (nf := nf) (by omega) (by omega) H3.1 (by rw [F03 40 5 (by decide) (by decide), hf]) hf2 (fun j q => by rw [r46]; exact hfp j q) nf 0 (by omega)
  rw [show flt (M3 45) (M3 46) (M3 40 8) (10 * (n + 6)) 0 (M3 48) = M3 48 from rfl, sr_id] at ht
  refine ⟨setRow M3 48 (flt (M3 45) (M3 46) (M3 40 8) (10 * (n + 6)) nf (M3 48)), ?_, ?_, ?_, ?_⟩
  rotate_left
  · rw [sr_n (by decide)]; exact H3.1
  · intro j hj
    rw [sr_s, r45, r46, r8]
    exact flt_congr (by omega) (by omega) (fun j q => H3.2 j q) nf (fun j q => ⟨rfl, rfl, hfp j q⟩) j hj
  · intro a k ha hk
    rw [sr_n (fun q => ha (by rw [q]; exact List.mem_cons_self))]
    exact F03 a k ha hk
  have hck := m_checkOf (M := M1) (r := 49) (fr := 0) (n := n) (N := 12) rfl (by omega) (by decide)
  rw [show (fun q => M1 49 (0 + q)) = M1 49 by funext q; rw [Nat.zero_add], crcN_congr (f := M1 49) (g := p) n (fun j q => by rw [F01 49 j (by decide) (by simp), hp j q])] at hck
  have hs1 : M1 40 14 = nI n := by rw [F01 40 14 (by decide) (by decide), hs]
  refine con_of (lv := [some (.ref 40), none, none, none]) (by decide) rfl (Nat.le_of_ble_eq_true rfl) (by simp [lvle]) ?_
  refine r_aload_n dX6_layWire_0 rfl rfl ?_
  refine r_iconst 0 dX6_layWire_1 (by decide) ?_
  refine r_putI (N := 35) dX6_layWire_2 fwX6_118 (by first | rfl | assumption) (Nat.le_of_ble_eq_true rfl) rfl (Or.inl rfl) rfl rfl ?_
  refine r_aload_n dX6_layWire_5 rfl rfl ?_
  refine r_iconst 0 dX6_layWire_6 (by decide) ?_
  refine r_putI (N := 35) dX6_layWire_7 fwX6_114 (by first | rfl | assumption) (Nat.le_of_ble_eq_true rfl) rfl (Or.inl rfl) (by decide) (by decide) ?_
  refine r_aload_n dX6_layWire_10 rfl rfl ?_
  refine r_ldc 65535 dX6_layWire_11 cnX6_112 ?_
  refine r_putI (N := 35) dX6_layWire_13 fwX6_109 (by first | rfl | assumption) (Nat.le_of_ble_eq_true rfl) rfl (Or.inl rfl) rfl rfl ?_
  refine r_aload_n dX6_layWire_16 rfl rfl ?_
  refine r_sipush 256 dX6_layWire_17 (by decide) ?_
  refine gW1 (Y := mX6_wireWord) (ci := 6) (N := 35) dX6_layWire_20 mlX6_121 vkX6_wireWord (by first | rfl | assumption) ⟨by decide, rfl⟩ rfl g1 ?_
  refine r_aload_n dX6_layWire_23 rfl rfl ?_
  refine r_getR (N := 35) dX6_layWire_24 fwX6_34 (by first | rfl | assumption) (Nat.le_of_ble_eq_true rfl) rfl (by first | rfl | assumption) ?_
  refine r_iconst 0 dX6_layWire_27 (by decide) ?_
  refine r_aload_n dX6_layWire_28 rfl rfl ?_
  refine r_getI (N := 35) dX6_layWire_29 fwX6_125 (by first | rfl | assumption) (Nat.le_of_ble_eq_true rfl) rfl ?_
  rw [hs1]
  refine gS3 (Y := mX6_checkOf) dX6_layWire_32 mlX6_105 ckX6_checkOf skX6_checkOf rfl hck ?_
  refine r_istore_n1 dX6_layWire_35 rfl (Nat.le_of_ble_eq_true rfl) ?_
  refine r_iconst 0 dX6_layWire_36 (by decide) ?_
  refine r_istore_n2 dX6_layWire_37 rfl (Nat.le_of_ble_eq_true rfl) ?_
  refine r_weak (by simp [lvle] <;> (repeat' apply And.intro) <;> first | rfl | decide) (w2 _ ?_)
  refine r_aload_n dX6_layWire_99 rfl rfl ?_
  refine r_sipush 257 dX6_layWire_100 (by decide) ?_
  refine gW1 (Y := mX6_wireWord) (ci := 6) (N := 35) dX6_layWire_103 mlX6_121 vkX6_wireWord (by first | rfl | assumption) ⟨by decide, rfl⟩ rfl g3 ?_
  refine r_iconst 0 dX6_layWire_106 (by decide) ?_
  refine r_istore_n2 dX6_layWire_107 rfl (Nat.le_of_ble_eq_true rfl) ?_
  exact r_weak (by simp [lvle] <;> (repeat' apply And.intro) <;> first | rfl | decide) ht
end
section
/-- ten bits as a number -/
def wrd (b : Nat → Nat) (s : Nat) : Nat → Nat
  | 0 => 0
  | d + 1 => 2 * wrd b s d + b (s + d)
theorem wrd_lt {b : Nat → Nat} {s : Nat} : ∀ d, (∀ j, s ≤ j → j < s + d → b j ≤ 1) → wrd b s d < 2 ^ d
  | 0, _ => by simp [wrd]
  | d + 1, h => by
    have h1 := wrd_lt (b := b) (s := s) d (fun j q1 q2 => h j q1 (by omega))
    have h2 := h (s + d) (by omega) (by omega)
    simp only [wrd, Nat.pow_succ]
    omega
theorem wrd_congr {b b' : Nat → Nat} {s : Nat} : ∀ d, (∀ j, s ≤ j → j < s + d → b j = b' j) → wrd b s d = wrd b' s d
  | 0, _ => rfl
  | d + 1, h => by
    simp only [wrd]
    rw [wrd_congr d (fun j q1 q2 => h j q1 (by omega)), h (s + d) (by omega) (by omega)]
set_option maxRecDepth 100000 in
theorem shl_or : ∀ x, x < 512 → ∀ b, b < 2 → (nI x <<< ((1 : Int32) &&& 31)) ||| nI b = nI (2 * x + b) := by decide +kernel
/-- the bits of a row -/
def bN (f : Nat → Int32) (j : Nat) : Nat := (f j).toNatClampNeg
def is01 (f : Nat → Int32) (n : Nat) : Prop := ∀ j, j < n → f j = 0 ∨ f j = 1
theorem bN_ok {f : Nat → Int32} {n j : Nat} (h : is01 f n) (hj : j < n) : f j = nI (bN f j) ∧ bN f j ≤ 1 := by
  unfold bN
  rcases h j hj with q | q <;> rw [q] <;> decide
def xW (f : Nat → Int32) (w : Nat) : Nat := wrd (bN f) (10 * w) 10
theorem xW_lt {f : Nat → Int32} {n w : Nat} (h : is01 f n) (hw : 10 * w + 10 ≤ n) : xW f w < 1024 := wrd_lt 10 (fun j _ q => (bN_ok h (by omega)).2)
theorem xW_congr {f g : Nat → Int32} {n w : Nat} (h : ∀ j, j < n → f j = g j) (hw : 10 * w + 10 ≤ n) : xW f w = xW g w := wrd_congr 10 (fun j _ q => by unfold bN; rw [h j (by omega)])
set_option maxHeartbeats 4000000 in
set_option maxRecDepth 100000 in
theorem x_wordAt_lp {M : Mem} {w nb : Nat} (h01 : is01 (M 10) nb) (hw : 10 * w + 10 ≤ nb) (hn : nb ≤ 180) : ∀ (d k : Nat), k + d = 10 → WP mX4_wordAt 28 [some (.ref 4), none, some (.int (nI (10 * w))), some (.int (nI (wrd (bN (M 10)) (10 * w) k))), some (.int (nI (10 * w + k)))] [] 0 0 (shp, rfs, M) (fun r1 h1 => r1 = some (.int (nI (xW (M 10) w))) ∧ h1 = (shp, rfs, M)) := by
  have h10 : nI (10 * w) + 10 = nI (10 * w + 10) := nI_add (10 * w) 10
  intro d
  induction d with
  | zero =>
    intro k hk
    have hk : k = 10 := by omega
    subst hk
    refine r_iload dX4_wordAt_28 rfl ?_
    refine r_iload_n dX4_wordAt_30 rfl rfl ?_
    refine r_bipush 10 dX4_wordAt_31 (by decide) ?_
    refine r_iadd dX4_wordAt_33 ?_
    rw [h10]
    refine r_icmp_ge 55 dX4_wordAt_34 (by decide) (fun c_34 => ?_) (fun c_34 => absurd (nI_le (Nat.le_refl _) (by omega)) c_34)
    refine r_iload_n dX4_wordAt_55 rfl rfl ?_
    refine r_ireturn dX4_wordAt_56 rfl (Nat.zero_le _) (Nat.zero_le _) ?_
    exact ⟨rfl, rfl⟩
  | succ d ih =>
    intro k hk
    have hcl : (nI (10 * w + k)).toNatClampNeg = 10 * w + k := nI_clamp (by omega)
    obtain ⟨e1, e2⟩ := bN_ok h01 (j := 10 * w + k) (by omega)
    have e3 := wrd_lt (b := bN (M 10)) (s := 10 * w) k (fun j _ q => (bN_ok h01 (by omega)).2)
    have e4 : 2 ^ k ≤ 2 ^ 9 := Nat.pow_le_pow_right (by omega) (by omega)
    have e5 := shl_or (wrd (bN (M 10)) (10 * w) k) (by omega) (bN (M 10) (10 * w + k)) (by omega)
    refine r_iload dX4_wordAt_28 rfl ?_
    refine r_iload_n dX4_wordAt_30 rfl rfl ?_
    refine r_bipush 10 dX4_wordAt_31 (by decide) ?_
    refine r_iadd dX4_wordAt_33 ?_
    rw [h10]
    refine r_icmp_ge 55 dX4_wordAt_34 (by decide) (fun c_34 => absurd c_34 (nI_ge (by omega) (by omega))) (fun c_34 => ?_)
    refine r_iload_n dX4_wordAt_37 rfl rfl ?_
    refine r_iconst 1 dX4_wordAt_38 (by decide) ?_
    refine r_ishl dX4_wordAt_39 ?_
    refine r_aload_n dX4_wordAt_40 rfl rfl ?_
    refine r_getR (N := 13) dX4_wordAt_41 fwX4_25 (by first | rfl | assumption) (Nat.le_of_ble_eq_true rfl) rfl (by first | rfl | assumption) ?_
    refine r_iload dX4_wordAt_44 rfl ?_
    refine r_iaload dX4_wordAt_46 (by first | rfl | assumption) (by exact vp_in_nI (by omega) (by decide)) ?_
    rw [hcl, e1]
    refine r_ior dX4_wordAt_47 ?_
    rw [e5]
    refine r_istore_n3 dX4_wordAt_48 rfl (Nat.le_of_ble_eq_true rfl) ?_
    refine r_iinc_4 (_ + 1) dX4_wordAt_49 rfl (Nat.le_of_ble_eq_true rfl) rfl ?_
    refine r_goto 28 dX4_wordAt_52 (by decide) ?_
    rw [nI_1]
    exact ih (k + 1) (by omega)
set_option maxHeartbeats 4000000 in
set_option maxRecDepth 100000 in
theorem x_wordAt {M : Mem} {w nb : Nat} (h01 : is01 (M 10) nb) (hw : 10 * w + 10 ≤ nb) (hn : nb ≤ 180) : Gv mX4_wordAt [.ref 4, .int (nI w)] M (some (.int (nI (xW (M 10) w)))) M := by
  have h := x_wordAt_lp h01 hw hn 10 0 rfl
  have hm : nI w * 10 = nI (10 * w) := by rw [Nat.mul_comm]; exact pk_mul w 10
  have h10 : nI (10 * w) + 10 = nI (10 * w + 10) := nI_add (10 * w) 10
  refine con_of (lv := [some (.ref 4), some (.int (nI w)), none, none, none]) (by decide) rfl (Nat.le_of_ble_eq_true rfl) (by simp [lvle]) ?_
  refine r_iload_n dX4_wordAt_0 rfl rfl ?_
  refine r_bipush 10 dX4_wordAt_1 (by decide) ?_
  refine r_imul dX4_wordAt_3 ?_
  rw [hm]
  refine r_istore_n2 dX4_wordAt_4 rfl (Nat.le_of_ble_eq_true rfl) ?_
  refine r_iload_n dX4_wordAt_5 rfl rfl ?_
  refine r_if_lt 21 dX4_wordAt_6 (by decide) (fun c_6 => absurd c_6 (nI_pos (by omega))) (fun c_6 => ?_)
  refine r_iload_n dX4_wordAt_9 rfl rfl ?_
  refine r_bipush 10 dX4_wordAt_10 (by decide) ?_
  refine r_iadd dX4_wordAt_12 ?_
  refine r_aload_n dX4_wordAt_13 rfl rfl ?_
  refine r_getR (N := 13) dX4_wordAt_14 fwX4_25 (by first | rfl | assumption) (Nat.le_of_ble_eq_true rfl) rfl (by first | rfl | assumption) ?_
  refine r_alen dX4_wordAt_17 (by first | rfl | assumption) (by first | exact Or.inl rfl | exact Or.inr rfl) ?_
  rw [h10]
  refine r_icmp_le 23 dX4_wordAt_18 (by decide) (fun c_18 => ?_) (fun c_18 => absurd (nI_le (by omega) (by decide)) c_18)
  refine r_iconst 0 dX4_wordAt_23 (by decide) ?_
  refine r_istore_n3 dX4_wordAt_24 rfl (Nat.le_of_ble_eq_true rfl) ?_
  refine r_iload_n dX4_wordAt_25 rfl rfl ?_
  refine r_istore_4 dX4_wordAt_26 rfl (Nat.le_of_ble_eq_true rfl) ?_
  exact r_weak (by simp [lvle] <;> (repeat' apply And.intro) <;> first | rfl | decide) h
def num4 (a b c d : Int32) : Int32 := ((((((((0 : Int32) <<< ((8 : Int32) &&& 31)) ||| a) <<< ((8 : Int32) &&& 31)) ||| b) <<< ((8 : Int32) &&& 31)) ||| c) <<< ((8 : Int32) &&& 31)) ||| d
set_option maxHeartbeats 4000000 in
set_option maxRecDepth 100000 in
theorem b_numberAt {o r : Nat} {M : Mem} (hB : isBy o r) {n s : Nat} (hn : M o 1 = nI n) (hn2 : n ≤ 16) (hs : s + 4 ≤ n) : Gv mX0_numberAt [.ref o, .int (nI s)] M (some (.int (num4 (M r s) (M r (s + 1)) (M r (s + 1 + 1)) (M r (s + 1 + 1 + 1))))) M := by
  obtain ⟨hB1, hB2, hB3, hB4⟩ := id hB
  have h4 : nI s + 4 = nI (s + 4) := nI_add s 4
  have c0 : (nI s).toNatClampNeg = s := nI_clamp (by omega)
  have c1 : (nI (s + 1)).toNatClampNeg = s + 1 := nI_clamp (by omega)
  have c2 : (nI (s + 1 + 1)).toNatClampNeg = s + 1 + 1 := nI_clamp (by omega)
  have c3 : (nI (s + 1 + 1 + 1)).toNatClampNeg = s + 1 + 1 + 1 := nI_clamp (by omega)
  have hm : nI n - 4 = nI (n - 4) := pk_sub (a := n) (b := 4) (by omega)
  refine con_of (lv := [some (.ref o), some (.int (nI s)), none, none]) (by decide) rfl (Nat.le_of_ble_eq_true rfl) (by simp [lvle]) ?_
  refine r_iload_n dX0_numberAt_0 rfl rfl ?_
  refine r_if_lt 14 dX0_numberAt_1 (by decide) (fun c_1 => absurd c_1 (nI_pos (by omega))) (fun c_1 => ?_)
  refine r_iload_n dX0_numberAt_4 rfl rfl ?_
  refine r_aload_n dX0_numberAt_5 rfl rfl ?_
  refine r_getI (N := 2) dX0_numberAt_6 fwX0_15 (by first | rfl | assumption) (Nat.le_of_ble_eq_true rfl) rfl ?_
  refine r_iconst 4 dX0_numberAt_9 (by decide) ?_
  refine r_isub dX0_numberAt_10 ?_
  rw [hn, hm]
  refine r_icmp_le 16 dX0_numberAt_11 (by decide) (fun c_11 => ?_) (fun c_11 => absurd (nI_le (by omega) (by omega)) c_11)
  refine r_iconst 0 dX0_numberAt_16 (by decide) ?_
  refine r_istore_n2 dX0_numberAt_17 rfl (Nat.le_of_ble_eq_true rfl) ?_
  refine r_iload_n dX0_numberAt_18 rfl rfl ?_
  refine r_istore_n3 dX0_numberAt_19 rfl (Nat.le_of_ble_eq_true rfl) ?_
  skip
  refine r_iload_n dX0_numberAt_20 rfl rfl ?_
  refine r_iload_n dX0_numberAt_21 rfl rfl ?_
  refine r_iconst 4 dX0_numberAt_22 (by decide) ?_
  refine r_iadd dX0_numberAt_23 ?_
  rw [h4]
  refine r_icmp_ge 45 dX0_numberAt_24 (by decide) (fun c_24 => absurd c_24 (nI_ge (by omega) (by omega))) (fun c_24 => ?_)
  refine r_iload_n dX0_numberAt_27 rfl rfl ?_
  refine r_bipush 8 dX0_numberAt_28 (by decide) ?_
  refine r_ishl dX0_numberAt_30 ?_
  refine r_aload_n dX0_numberAt_31 rfl rfl ?_
  refine r_getR (N := 2) dX0_numberAt_32 fwX0_9 (by first | rfl | assumption) (Nat.le_of_ble_eq_true rfl) rfl (by first | rfl | assumption) ?_
  refine r_iload_n dX0_numberAt_35 rfl rfl ?_
  refine r_iaload dX0_numberAt_36 (by first | rfl | assumption) (by exact vp_in_nI (by omega) (by decide)) ?_
  rw [c0]
  refine r_ior dX0_numberAt_37 ?_
  refine r_istore_n2 dX0_numberAt_38 rfl (Nat.le_of_ble_eq_true rfl) ?_
  refine r_iinc_3 (_ + 1) dX0_numberAt_39 rfl (Nat.le_of_ble_eq_true rfl) rfl ?_
  refine r_goto 20 dX0_numberAt_42 (by decide) ?_
  rw [nI_1]
  refine r_iload_n dX0_numberAt_20 rfl rfl ?_
  refine r_iload_n dX0_numberAt_21 rfl rfl ?_
  refine r_iconst 4 dX0_numberAt_22 (by decide) ?_
  refine r_iadd dX0_numberAt_23 ?_
  rw [h4]
  refine r_icmp_ge 45 dX0_numberAt_24 (by decide) (fun c_24 => absurd c_24 (nI_ge (by omega) (by omega))) (fun c_24 => ?_)
  refine r_iload_n dX0_numberAt_27 rfl rfl ?_
  refine r_bipush 8 dX0_numberAt_28 (by decide) ?_
  refine r_ishl dX0_numberAt_30 ?_
  refine r_aload_n dX0_numberAt_31 rfl rfl ?_
  refine r_getR (N := 2) dX0_numberAt_32 fwX0_9 (by first | rfl | assumption) (Nat.le_of_ble_eq_true rfl) rfl (by first | rfl | assumption) ?_
  refine r_iload_n dX0_numberAt_35 rfl rfl ?_
  refine r_iaload dX0_numberAt_36 (by first | rfl | assumption) (by exact vp_in_nI (by omega) (by decide)) ?_
  rw [c1]
  refine r_ior dX0_numberAt_37 ?_
  refine r_istore_n2 dX0_numberAt_38 rfl (Nat.le_of_ble_eq_true rfl) ?_
  refine r_iinc_3 (_ + 1) dX0_numberAt_39 rfl (Nat.le_of_ble_eq_true rfl) rfl ?_
  refine r_goto 20 dX0_numberAt_42 (by decide) ?_
  rw [nI_1]
  refine r_iload_n dX0_numberAt_20 rfl rfl ?_
  refine r_iload_n dX0_numberAt_21 rfl rfl ?_
  refine r_iconst 4 dX0_numberAt_22 (by decide) ?_
  refine r_iadd dX0_numberAt_23 ?_
  rw [h4]
  refine r_icmp_ge 45 dX0_numberAt_24 (by decide) (fun c_24 => absurd c_24 (nI_ge (by omega) (by omega))) (fun c_24 => ?_)
  refine r_iload_n dX0_numberAt_27 rfl rfl ?_
  refine r_bipush 8 dX0_numberAt_28 (by decide) ?_
  refine r_ishl dX0_numberAt_30 ?_
  refine r_aload_n dX0_numberAt_31 rfl rfl ?_
  refine r_getR (N := 2) dX0_numberAt_32 fwX0_9 (by first | rfl | assumption) (Nat.le_of_ble_eq_true rfl) rfl (by first | rfl | assumption) ?_
  refine r_iload_n dX0_numberAt_35 rfl rfl ?_
  refine r_iaload dX0_numberAt_36 (by first | rfl | assumption) (by exact vp_in_nI (by omega) (by decide)) ?_
  rw [c2]
  refine r_ior dX0_numberAt_37 ?_
  refine r_istore_n2 dX0_numberAt_38 rfl (Nat.le_of_ble_eq_true rfl) ?_
  refine r_iinc_3 (_ + 1) dX0_numberAt_39 rfl (Nat.le_of_ble_eq_true rfl) rfl ?_
  refine r_goto 20 dX0_numberAt_42 (by decide) ?_
  rw [nI_1]
  refine r_iload_n dX0_numberAt_20 rfl rfl ?_
  refine r_iload_n dX0_numberAt_21 rfl rfl ?_
  refine r_iconst 4 dX0_numberAt_22 (by decide) ?_
  refine r_iadd dX0_numberAt_23 ?_
  rw [h4]
  refine r_icmp_ge 45 dX0_numberAt_24 (by decide) (fun c_24 => absurd c_24 (nI_ge (by omega) (by omega))) (fun c_24 => ?_)
  refine r_iload_n dX0_numberAt_27 rfl rfl ?_
  refine r_bipush 8 dX0_numberAt_28 (by decide) ?_
  refine r_ishl dX0_numberAt_30 ?_
  refine r_aload_n dX0_numberAt_31 rfl rfl ?_
  refine r_getR (N := 2) dX0_numberAt_32 fwX0_9 (by first | rfl | assumption) (Nat.le_of_ble_eq_true rfl) rfl (by first | rfl | assumption) ?_
  refine r_iload_n dX0_numberAt_35 rfl rfl ?_
  refine r_iaload dX0_numberAt_36 (by first | rfl | assumption) (by exact vp_in_nI (by omega) (by decide)) ?_
  rw [c3]
  refine r_ior dX0_numberAt_37 ?_
  refine r_istore_n2 dX0_numberAt_38 rfl (Nat.le_of_ble_eq_true rfl) ?_
  refine r_iinc_3 (_ + 1) dX0_numberAt_39 rfl (Nat.le_of_ble_eq_true rfl) rfl ?_
  refine r_goto 20 dX0_numberAt_42 (by decide) ?_
  rw [nI_1]
  refine r_iload_n dX0_numberAt_20 rfl rfl ?_
  refine r_iload_n dX0_numberAt_21 rfl rfl ?_
  refine r_iconst 4 dX0_numberAt_22 (by decide) ?_
  refine r_iadd dX0_numberAt_23 ?_
  rw [h4]
  refine r_icmp_ge 45 dX0_numberAt_24 (by decide) (fun c_24 => ?_) (fun c_24 => absurd (nI_le (by omega) (by omega)) c_24)
  refine r_iload_n dX0_numberAt_45 rfl rfl ?_
  refine r_ireturn dX0_numberAt_46 rfl (Nat.zero_le _) (Nat.zero_le _) ?_
  exact ⟨rfl, rfl⟩
theorem okB_hi {x : Int32} (h : okB x) {i : Nat} (hi : 8 ≤ i) : bt x i = false := by
  have := congrArg (fun y => bt y i) h
  simp only [b_and, b_255, decide_eq_false (show ¬ i < 8 by omega), Bool.and_false] at this
  exact this.symm
theorem bt_nby {x : Int32} {q i : Nat} (hq : q < 4) : bt (nby x q) i = (decide (i < 8) && bt x (24 - 8 * q + i)) := by
  unfold nby us
  rw [b_and, b_255, b_ushr _ (by omega), Bool.and_comm]
theorem bt_num4 {a b c d : Int32} (ha : okB a) (hb : okB b) (hc : okB c) (hd : okB d) {i : Nat} (hi : i < 32) : bt (num4 a b c d) i = if i < 8 then bt d i else if i < 16 then bt c (i - 8) else if i < 24 then bt b (i - 16) else bt a (i - 24) := by
  unfold num4
  have z : ∀ (x y : Int32) (k : Nat), k < 32 → bt ((x <<< ((8 : Int32) &&& 31)) ||| y) k = ((decide (8 ≤ k) && bt x (k - 8)) || bt y k) := fun x y k hk => by rw [b_or, b_shl8 x hk]
  rw [z _ _ i hi]
  by_cases h1 : i < 8
  · rw [if_pos h1, decide_eq_false (by omega)]
    simp
  · rw [if_neg h1, decide_eq_true (by omega), okB_hi hd (by omega), Bool.or_false, Bool.true_and, z _ _ _ (by omega)]
    by_cases h2 : i < 16
    · rw [if_pos h2, decide_eq_false (by omega)]
      simp
    · rw [if_neg h2, decide_eq_true (by omega), okB_hi hc (by omega), Bool.or_false, Bool.true_and, z _ _ _ (by omega)]
      by_cases h3 : i < 24
      · rw [if_pos h3, decide_eq_false (by omega), show i - 8 - 8 = i - 16 by omega]
        simp
      · rw [if_neg h3, decide_eq_true (by omega), okB_hi hb (by omega), Bool.or_false, Bool.true_and, z _ _ _ (by omega), show i - 8 - 8 - 8 = i - 24 by omega]
        rw [show (0 : Int32) = 0 from rfl, b_0]
        simp
theorem num4_eq {a b c d x : Int32} (ha : okB a) (hb : okB b) (hc : okB c) (hd : okB d) : x = num4 a b c d ↔ a = nby x 0 ∧ b = nby x 1 ∧ c = nby x 2 ∧ d = nby x 3 := by
  constructor
  · intro h
    have hbit : ∀ i, i < 32 → bt x i = if i < 8 then bt d i else if i < 16 then bt c (i - 8) else if i < 24 then bt b (i - 16) else bt a (i - 24) := fun i hi => by rw [h]; exact bt_num4 ha hb hc hd hi
    refine ⟨?_, ?_, ?_, ?_⟩ <;> (apply b_ext; intro i hi; rw [bt_nby (by omega)]; by_cases h8 : i < 8)
    · rw [decide_eq_true h8, Bool.true_and, hbit _ (by omega), if_neg (by omega), if_neg (by omega), if_neg (by omega)]
      congr 1
      omega
    · rw [decide_eq_false h8, okB_hi ha (by omega)]
      rfl
    · rw [decide_eq_true h8, Bool.true_and, hbit _ (by omega), if_neg (by omega), if_neg (by omega), if_pos (by omega)]
      congr 1
      omega
    · rw [decide_eq_false h8, okB_hi hb (by omega)]
      rfl
    · rw [decide_eq_true h8, Bool.true_and, hbit _ (by omega), if_neg (by omega), if_pos (by omega)]
      congr 1
      omega
    · rw [decide_eq_false h8, okB_hi hc (by omega)]
      rfl
    · rw [decide_eq_true h8, Bool.true_and, hbit _ (by omega), if_pos (by omega)]
      congr 1
      omega
    · rw [decide_eq_false h8, okB_hi hd (by omega)]
      rfl
  · rintro ⟨h1, h2, h3, h4⟩
    apply b_ext
    intro i hi
    rw [bt_num4 ha hb hc hd hi, h1, h2, h3, h4, bt_nby (by omega), bt_nby (by omega), bt_nby (by omega), bt_nby (by omega)]
    by_cases q1 : i < 8
    · rw [if_pos q1, decide_eq_true q1, Bool.true_and]
      congr 1
      omega
    · by_cases q2 : i < 16
      · rw [if_neg q1, if_pos q2, decide_eq_true (by omega), Bool.true_and]
        congr 1
        omega
      · by_cases q3 : i < 24
        · rw [if_neg q1, if_neg q2, if_pos q3, decide_eq_true (by omega), Bool.true_and]
          congr 1
          omega
        · rw [if_neg q1, if_neg q2, if_neg q3, decide_eq_true (by omega), Bool.true_and]
          congr 1
          omega
end
section
def misp (v : Int32) (w l : Nat) : Bool := if w = 0 then decide (¬ v = 256) else if w = l then decide (¬ v = 257) else decide (256 ≤ v)
def pw (x : Nat) (e : Bool) (w l : Nat) : Int32 := if cvf x e < 0 then -cvf x e else if misp (cvf x e) w l = true then 3 else 0
def eR (X : Nat → Nat) : Nat → Bool
  | 0 => false
  | w + 1 => Bool.xor (eR X w) (decide (252 ≤ cvf (X w) (eR X w)))
def rb (X : Nat → Nat) (j : Nat) : Int32 := cvf (X (j + 1)) (eR X (j + 1)) ^^^ sc j
def rcL (X : Nat → Nat) (l : Nat) (z : Int32) : Nat → Nat → Int32
  | 0, _ => z
  | d + 1, w => if pw (X w) (eR X w) w l = 0 then rcL X l z d (w + 1) else pw (X w) (eR X w) w l
def rcZ (X : Nat → Nat) (l : Nat) : Int32 := if crcN (rb X) (l - 5) = num4 (rb X (l - 5)) (rb X (l - 5 + 1)) (rb X (l - 5 + 1 + 1)) (rb X (l - 5 + 1 + 1 + 1)) then 0 else 4
/-- the finding of a wire of l + 1 words -/
def rcv (X : Nat → Nat) (l : Nat) : Int32 := rcL X l (rcZ X l) (l + 1) 0
theorem eR_congr {X Y : Nat → Nat} : ∀ w, (∀ j, j < w → X j = Y j) → eR X w = eR Y w
  | 0, _ => rfl
  | w + 1, h => by simp only [eR]; rw [eR_congr w (fun j q => h j (by omega)), h w (by omega)]
theorem rb_congr {X Y : Nat → Nat} {j : Nat} (h : ∀ i, i < j + 2 → X i = Y i) : rb X j = rb Y j := by
  unfold rb
  rw [eR_congr (j + 1) (fun i q => h i (by omega)), h (j + 1) (by omega)]
theorem rcL_congr {X Y : Nat → Nat} {l : Nat} {z : Int32} : ∀ d w, (∀ j, j < w + d → X j = Y j) → rcL X l z d w = rcL Y l z d w
  | 0, _, _ => rfl
  | d + 1, w, h => by
    simp only [rcL]
    rw [rcL_congr d (w + 1) (fun j q => h j (by omega)), eR_congr w (fun j q => h j (by omega)), h w (by omega)]
theorem rcv_congr {X Y : Nat → Nat} {l : Nat} (hl : 5 ≤ l) (h : ∀ j, j < l + 1 → X j = Y j) : rcv X l = rcv Y l := by
  unfold rcv
  rw [rcL_congr (l + 1) 0 (fun j q => h j (by omega))]
  have hr : ∀ j, j + 2 ≤ l + 1 → rb X j = rb Y j := fun j hj => rb_congr (fun i q => h i (by omega))
  unfold rcZ
  rw [crcN_congr (l - 5) (fun j q => hr j (by omega)), hr (l - 5) (by omega), hr (l - 5 + 1) (by omega), hr (l - 5 + 1 + 1) (by omega), hr (l - 5 + 1 + 1 + 1) (by omega)]
theorem cvf_neg {x : Nat} (hx : x < 1024) {e : Bool} (h : cvf x e < 0) : cvf x e = -1 ∨ cvf x e = -2 := by
  rcases c_kinds hx e with ⟨i, hi, -, h2, -⟩ | ⟨-, -, -, h2, -⟩ | ⟨k, hk, -, -, h2, -⟩ | ⟨k, hk, -, -, -, h2, -⟩
  · rw [h2] at h; exact absurd h (nI_pos (by omega))
  · exact Or.inl h2
  · rw [h2] at h; exact absurd h (nI_pos (by omega))
  · exact Or.inr h2
theorem cvf_nn {x : Nat} (hx : x < 1024) {e : Bool} (h : ¬ cvf x e < 0) : ∃ k, k < 264 ∧ cvf x e = nI k := by
  rcases c_kinds hx e with ⟨i, hi, -, h2, -⟩ | ⟨-, -, -, h2, -⟩ | ⟨k, hk, -, -, h2, -⟩ | ⟨k, hk, -, -, -, h2, -⟩
  · exact ⟨i, by omega, h2⟩
  · rw [h2] at h; exact absurd (by decide) h
  · exact ⟨252 + k, by omega, h2⟩
  · rw [h2] at h; exact absurd (by decide) h
theorem pw_n {x : Nat} (hx : x < 1024) {e : Bool} {w l : Nat} (h : cvf x e < 0) : pw x e w l = -cvf x e ∧ ¬ pw x e w l = 0 := by
  have h1 : pw x e w l = -cvf x e := if_pos h
  refine ⟨h1, ?_⟩
  rw [h1]
  rcases cvf_neg hx h with q | q <;> rw [q] <;> decide
theorem pw_3 {x : Nat} {e : Bool} {w l : Nat} (h : ¬ cvf x e < 0) (hm : misp (cvf x e) w l = true) : pw x e w l = 3 := by
  unfold pw
  rw [if_neg h, if_pos hm]
theorem pw_0 {x : Nat} {e : Bool} {w l : Nat} (h : ¬ cvf x e < 0) (hm : misp (cvf x e) w l = false) : pw x e w l = 0 := by
  unfold pw
  rw [if_neg h, if_neg (by rw [hm]; decide)]
set_option maxHeartbeats 4000000 in
set_option maxRecDepth 100000 in
theorem x_isMisplaced {M : Mem} {v : Int32} {w l : Nat} (hw : w < 2 ^ 31) (hl : l < 2 ^ 31) : Gv mX4_isMisplaced [.ref 4, .int v, .int (nI w), .int (nI l)] M (some (.int (eI (misp v w l)))) M := by
  refine con_of (lv := [some (.ref 4), some (.int v), some (.int (nI w)), some (.int (nI l))]) (by decide) rfl (Nat.le_of_ble_eq_true rfl) (by simp [lvle]) ?_
  by_cases h0 : w = 0
  · subst h0
    refine r_iload_n dX4_isMisplaced_0 rfl rfl ?_
    refine r_if_ne 17 dX4_isMisplaced_1 (by decide) (fun c_1 => absurd nI_0 c_1) (fun c_1 => ?_)
    refine r_iload_n dX4_isMisplaced_4 rfl rfl ?_
    refine r_sipush 256 dX4_isMisplaced_5 (by decide) ?_
    refine r_icmp_eq 15 dX4_isMisplaced_8 (by decide) (fun c_8 => ?_) (fun c_8 => ?_)
    · refine r_iconst 0 dX4_isMisplaced_15 (by decide) ?_
      refine r_zreturn dX4_isMisplaced_16 rfl (by decide) (Nat.zero_le _) (Nat.zero_le _) ?_
      refine ⟨?_, rfl⟩
      unfold misp
      rw [if_pos rfl]
      first | rw [decide_eq_true c_8] | rw [decide_eq_false (fun q => q c_8)]
      rfl
    · refine r_iconst 1 dX4_isMisplaced_11 (by decide) ?_
      refine r_goto 16 dX4_isMisplaced_12 (by decide) ?_
      refine r_zreturn dX4_isMisplaced_16 rfl (by decide) (Nat.zero_le _) (Nat.zero_le _) ?_
      refine ⟨?_, rfl⟩
      unfold misp
      rw [if_pos rfl]
      first | rw [decide_eq_true c_8] | rw [decide_eq_false (fun q => q c_8)]
      rfl
  · have hn0 : ¬ nI w = 0 := nI_ne0 (by omega) hw
    by_cases hwl : w = l
    · subst hwl
      refine r_iload_n dX4_isMisplaced_0 rfl rfl ?_
      refine r_if_ne 17 dX4_isMisplaced_1 (by decide) (fun c_1 => ?_) (fun c_1 => absurd c_1 hn0)
      refine r_iload_n dX4_isMisplaced_17 rfl rfl ?_
      refine r_iload_n dX4_isMisplaced_18 rfl rfl ?_
      refine r_icmp_ne 37 dX4_isMisplaced_19 (by decide) (fun c_19 => absurd rfl c_19) (fun c_19 => ?_)
      refine r_iload_n dX4_isMisplaced_22 rfl rfl ?_
      refine r_sipush 257 dX4_isMisplaced_23 (by decide) ?_
      refine r_icmp_eq 33 dX4_isMisplaced_26 (by decide) (fun c_26 => ?_) (fun c_26 => ?_)
      · refine r_iconst 0 dX4_isMisplaced_33 (by decide) ?_
        refine r_goto 49 dX4_isMisplaced_34 (by decide) ?_
        refine r_zreturn dX4_isMisplaced_49 rfl (by decide) (Nat.zero_le _) (Nat.zero_le _) ?_
        refine ⟨?_, rfl⟩
        unfold misp
        rw [if_neg h0, if_pos rfl]
        first | rw [decide_eq_true c_26] | rw [decide_eq_false (fun q => q c_26)]
        rfl
      · refine r_iconst 1 dX4_isMisplaced_29 (by decide) ?_
        refine r_goto 49 dX4_isMisplaced_30 (by decide) ?_
        refine r_zreturn dX4_isMisplaced_49 rfl (by decide) (Nat.zero_le _) (Nat.zero_le _) ?_
        refine ⟨?_, rfl⟩
        unfold misp
        rw [if_neg h0, if_pos rfl]
        first | rw [decide_eq_true c_26] | rw [decide_eq_false (fun q => q c_26)]
        rfl
    · refine r_iload_n dX4_isMisplaced_0 rfl rfl ?_
      refine r_if_ne 17 dX4_isMisplaced_1 (by decide) (fun c_1 => ?_) (fun c_1 => absurd c_1 hn0)
      refine r_iload_n dX4_isMisplaced_17 rfl rfl ?_
      refine r_iload_n dX4_isMisplaced_18 rfl rfl ?_
      refine r_icmp_ne 37 dX4_isMisplaced_19 (by decide) (fun c_19 => ?_) (fun c_19 => absurd ((nI_eq hw hl).mp c_19) hwl)
      refine r_iload_n dX4_isMisplaced_37 rfl rfl ?_
      refine r_sipush 256 dX4_isMisplaced_38 (by decide) ?_
      refine r_icmp_lt 48 dX4_isMisplaced_41 (by decide) (fun c_41 => ?_) (fun c_41 => ?_)
      · refine r_iconst 0 dX4_isMisplaced_48 (by decide) ?_
        refine r_zreturn dX4_isMisplaced_49 rfl (by decide) (Nat.zero_le _) (Nat.zero_le _) ?_
        refine ⟨?_, rfl⟩
        unfold misp
        rw [if_neg h0, if_neg hwl]
        first | rw [decide_eq_false (lt_nle c_41)] | rw [decide_eq_true (nlt_le c_41)]
        rfl
      · refine r_iconst 1 dX4_isMisplaced_44 (by decide) ?_
        refine r_goto 49 dX4_isMisplaced_45 (by decide) ?_
        refine r_zreturn dX4_isMisplaced_49 rfl (by decide) (Nat.zero_le _) (Nat.zero_le _) ?_
        refine ⟨?_, rfl⟩
        unfold misp
        rw [if_neg h0, if_neg hwl]
        first | rw [decide_eq_false (lt_nle c_41)] | rw [decide_eq_true (nlt_le c_41)]
        rfl
set_option maxHeartbeats 4000000 in
set_option maxRecDepth 100000 in
theorem x_rc_ex {M : Mem} {e : Bool} {la wi v : Int32} {Q : Option Value → Hp → Prop} (hq : WP mX4_receive 86 [some (.ref 4), some (.int la), some (.int (eI (Bool.xor e (decide (252 ≤ v))))), some (.int wi), some (.int v)] [] 0 0 (shp, rfs, M) Q) : WP mX4_receive 63 [some (.ref 4), some (.int la), some (.int (eI e)), some (.int wi), some (.int v)] [] 0 0 (shp, rfs, M) Q := by
  by_cases h : 252 ≤ v
  · rw [decide_eq_true h] at hq
    cases e with
    | true =>
      refine r_iload_n dX4_receive_63 rfl rfl ?_
      refine r_iload dX4_receive_64 rfl ?_
      refine r_sipush 252 dX4_receive_66 (by decide) ?_
      refine r_icmp_lt 76 dX4_receive_69 (by decide) (fun c_69 => absurd c_69 (le_nlt h)) (fun c_69 => ?_)
      refine r_iconst 1 dX4_receive_72 (by decide) ?_
      refine r_goto 77 dX4_receive_73 (by decide) ?_
      refine r_icmp_eq 84 dX4_receive_77 (by decide) (fun c_77 => ?_) (fun c_77 => absurd rfl c_77)
      refine r_iconst 0 dX4_receive_84 (by decide) ?_
      refine r_istore_n2 dX4_receive_85 rfl (Nat.le_of_ble_eq_true rfl) ?_
      exact hq
    | false =>
      refine r_iload_n dX4_receive_63 rfl rfl ?_
      refine r_iload dX4_receive_64 rfl ?_
      refine r_sipush 252 dX4_receive_66 (by decide) ?_
      refine r_icmp_lt 76 dX4_receive_69 (by decide) (fun c_69 => absurd c_69 (le_nlt h)) (fun c_69 => ?_)
      refine r_iconst 1 dX4_receive_72 (by decide) ?_
      refine r_goto 77 dX4_receive_73 (by decide) ?_
      refine r_icmp_eq 84 dX4_receive_77 (by decide) (fun c_77 => absurd c_77 (by decide)) (fun c_77 => ?_)
      refine r_iconst 1 dX4_receive_80 (by decide) ?_
      refine r_goto 85 dX4_receive_81 (by decide) ?_
      refine r_istore_n2 dX4_receive_85 rfl (Nat.le_of_ble_eq_true rfl) ?_
      exact hq
  · rw [decide_eq_false h] at hq
    cases e with
    | true =>
      refine r_iload_n dX4_receive_63 rfl rfl ?_
      refine r_iload dX4_receive_64 rfl ?_
      refine r_sipush 252 dX4_receive_66 (by decide) ?_
      refine r_icmp_lt 76 dX4_receive_69 (by decide) (fun c_69 => ?_) (fun c_69 => absurd (nle_lt h) c_69)
      refine r_iconst 0 dX4_receive_76 (by decide) ?_
      refine r_icmp_eq 84 dX4_receive_77 (by decide) (fun c_77 => absurd c_77 (by decide)) (fun c_77 => ?_)
      refine r_iconst 1 dX4_receive_80 (by decide) ?_
      refine r_goto 85 dX4_receive_81 (by decide) ?_
      refine r_istore_n2 dX4_receive_85 rfl (Nat.le_of_ble_eq_true rfl) ?_
      exact hq
    | false =>
      refine r_iload_n dX4_receive_63 rfl rfl ?_
      refine r_iload dX4_receive_64 rfl ?_
      refine r_sipush 252 dX4_receive_66 (by decide) ?_
      refine r_icmp_lt 76 dX4_receive_69 (by decide) (fun c_69 => ?_) (fun c_69 => absurd (nle_lt h) c_69)
      refine r_iconst 0 dX4_receive_76 (by decide) ?_
      refine r_icmp_eq 84 dX4_receive_77 (by decide) (fun c_77 => ?_) (fun c_77 => absurd rfl c_77)
      refine r_iconst 0 dX4_receive_84 (by decide) ?_
      refine r_istore_n2 dX4_receive_85 rfl (Nat.le_of_ble_eq_true rfl) ?_
      exact hq
theorem okB_v {k : Nat} (h : ¬ 256 ≤ nI k) (hk : k < 264) : okB (nI k) := okB_nI (by
  rcases Nat.lt_or_ge k 256 with q | q
  · exact q
  · exact absurd (nI_le (a := 256) (b := k) q (by omega)) h)
set_option maxHeartbeats 4000000 in
set_option maxRecDepth 100000 in
theorem x_rc_lp {M0 : Mem} {l : Nat} (T : TabC M0) (TS : TabS M0) (hl : 6 ≤ l) (hl2 : l ≤ 17) (h01 : is01 (M0 10) (10 * (l + 1))) : ∀ (d w : Nat) (M : Mem), w + d = l + 1 → HB M 8 9 (min (w - 1) (l - 1)) (rb (xW (M0 10))) → (∀ j, j < min (w - 1) (l - 1) → okB (rb (xW (M0 10)) j)) → FrS [8, 9] [] M0 M → ∃ M', WP mX4_receive 21 [some (.ref 4), some (.int (nI l)), some (.int (eI (eR (xW (M0 10)) w))), some (.int (nI w)), none] [] 0 0 (shp, rfs, M) (fun r1 h1 => r1 = some (.int (rcL (xW (M0 10)) l (rcZ (xW (M0 10)) l) d w)) ∧ h1 = (shp, rfs, M')) ∧ FrS [8, 9] [] M0 M' := by
  intro d
  induction d with
  | zero =>
    intro w M hw H hok F
    have hw : w = l + 1 := by omega
    subst hw
    have hmin : min (l + 1 - 1) (l - 1) = l - 1 := by omega
    rw [hmin] at H hok
    refine ⟨M, ?_, F⟩
    have hs := b_size (M := M) isBy8
    rw [H.1] at hs
    have h4 : nI (l - 1) - 4 = nI (l - 5) := by
      rw [show (nI (l - 1) - 4 : Int32) = nI (l - 1 - 4) from pk_sub (a := l - 1) (b := 4) (by omega)]
      congr 1
    have hc := b_checksum isBy8 (M := M) (n := l - 1) (mn := l - 5) H.1 H.2.1 (by omega)
    rw [crcN_congr (f := M 9) (g := rb (xW (M0 10))) (l - 5) (fun j q => H.2.2 j (by omega))] at hc
    have hn := b_numberAt isBy8 (M := M) (n := l - 1) (s := l - 5) H.1 H.2.1 (by omega)
    rw [H.2.2 _ (by omega), H.2.2 _ (by omega), H.2.2 _ (by omega), H.2.2 _ (by omega)] at hn
    refine r_iload_n dX4_receive_21 rfl rfl ?_
    refine r_iload_n dX4_receive_22 rfl rfl ?_
    refine r_icmp_gt 117 dX4_receive_23 (by decide) (fun c_23 => ?_) (fun c_23 => absurd (nI_lt (by omega) (by omega)) c_23)
    refine r_aload_n dX4_receive_117 rfl rfl ?_
    refine r_getR (N := 13) dX4_receive_118 fwX4_22 (by first | rfl | assumption) (Nat.le_of_ble_eq_true rfl) rfl (by first | rfl | assumption) ?_
    refine gV0 (Y := mX0_size) (ci := 0) (N := 2) dX4_receive_121 mlX4_68 vkX0_size (by first | rfl | assumption) ⟨by decide, rfl⟩ rfl hs ?_
    refine r_iconst 4 dX4_receive_124 (by decide) ?_
    refine r_isub dX4_receive_125 ?_
    rw [h4]
    refine r_istore_n3 dX4_receive_126 rfl (Nat.le_of_ble_eq_true rfl) ?_
    refine r_aload_n dX4_receive_127 rfl rfl ?_
    refine r_getR (N := 13) dX4_receive_128 fwX4_22 (by first | rfl | assumption) (Nat.le_of_ble_eq_true rfl) rfl (by first | rfl | assumption) ?_
    refine r_iload_n dX4_receive_131 rfl rfl ?_
    refine gV1 (Y := mX0_checksum) (ci := 0) (N := 2) dX4_receive_132 mlX4_72 vkX0_checksum (by first | rfl | assumption) ⟨by decide, rfl⟩ rfl hc ?_
    refine r_aload_n dX4_receive_135 rfl rfl ?_
    refine r_getR (N := 13) dX4_receive_136 fwX4_22 (by first | rfl | assumption) (Nat.le_of_ble_eq_true rfl) rfl (by first | rfl | assumption) ?_
    refine r_iload_n dX4_receive_139 rfl rfl ?_
    refine gV1 (Y := mX0_numberAt) (ci := 0) (N := 2) dX4_receive_140 mlX4_123 vkX0_numberAt (by first | rfl | assumption) ⟨by decide, rfl⟩ rfl hn ?_
    refine r_icmp_ne 150 dX4_receive_143 (by decide) (fun c_143 => ?_) (fun c_143 => ?_)
    · refine r_iconst 4 dX4_receive_150 (by decide) ?_
      refine r_ireturn dX4_receive_151 rfl (Nat.zero_le _) (Nat.zero_le _) ?_
      refine ⟨?_, rfl⟩
      simp only [rcL, rcZ]
      first | rw [if_pos c_143] | rw [if_neg c_143]
    · refine r_iconst 0 dX4_receive_146 (by decide) ?_
      refine r_goto 151 dX4_receive_147 (by decide) ?_
      refine r_ireturn dX4_receive_151 rfl (Nat.zero_le _) (Nat.zero_le _) ?_
      refine ⟨?_, rfl⟩
      simp only [rcL, rcZ]
      first | rw [if_pos c_143] | rw [if_neg c_143]
  | succ d ih =>
    intro w M hw H hok F
    have T1 := T.frS F (by decide) (by decide)
    have TS1 := TS.frS F (by decide) (by decide)
    have r10 : M 10 = M0 10 := F.row (by decide) (by simp)
    have hx : xW (M0 10) w < 1024 := xW_lt h01 (by omega)
    have g1 := x_wordAt (M := M) (w := w) (nb := 10 * (l + 1)) (by rw [r10]; exact h01) (by omega) (by omega)
    rw [r10] at g1
    have g2 := x_valueOf T1 hx (e := eR (xW (M0 10)) w)
    have g3 := x_isMisplaced (M := M) (v := cvf (xW (M0 10) w) (eR (xW (M0 10)) w)) (w := w) (l := l) (by omega) (by omega)
    have c23 : ¬ nI l < nI w := nI_nlt (by omega) (by omega)
    simp only [rcL]
    by_cases hneg : cvf (xW (M0 10) w) (eR (xW (M0 10)) w) < 0
    · obtain ⟨p1, p2⟩ := pw_n hx (w := w) (l := l) hneg
      rw [if_neg p2, p1]
      refine ⟨M, ?_, F⟩
      refine r_iload_n dX4_receive_21 rfl rfl ?_
      refine r_iload_n dX4_receive_22 rfl rfl ?_
      refine r_icmp_gt 117 dX4_receive_23 (by decide) (fun c_23 => absurd c_23 c23) (fun c_23 => ?_)
      refine r_aload_n dX4_receive_26 rfl rfl ?_
      refine r_getR (N := 13) dX4_receive_27 fwX4_37 (by first | rfl | assumption) (Nat.le_of_ble_eq_true rfl) rfl (by first | rfl | assumption) ?_
      refine r_aload_n dX4_receive_30 rfl rfl ?_
      refine r_iload_n dX4_receive_31 rfl rfl ?_
      refine gV1 (Y := mX4_wordAt) (ci := 4) (N := 13) dX4_receive_32 mlX4_110 vkX4_wordAt (by first | rfl | assumption) ⟨by decide, rfl⟩ rfl g1 ?_
      refine r_iload_n dX4_receive_35 rfl rfl ?_
      refine gV2 (Y := mX1_valueOf) (ci := 1) (N := 2) dX4_receive_36 mlX4_113 vkX1_valueOf (by first | rfl | assumption) ⟨by decide, rfl⟩ rfl g2 ?_
      refine r_istore_4 dX4_receive_39 rfl (Nat.le_of_ble_eq_true rfl) ?_
      refine r_iload dX4_receive_41 rfl ?_
      refine r_if_ge 50 dX4_receive_43 (by decide) (fun c_43 => absurd c_43 (lt_nle hneg)) (fun c_43 => ?_)
      refine r_iload dX4_receive_46 rfl ?_
      refine r_ineg dX4_receive_48 ?_
      refine r_ireturn dX4_receive_49 rfl (Nat.zero_le _) (Nat.zero_le _) ?_
      exact ⟨rfl, rfl⟩
    · cases hm : misp (cvf (xW (M0 10) w) (eR (xW (M0 10)) w)) w l with
      | true =>
        have p1 := pw_3 hneg hm
        rw [if_neg (by rw [p1]; decide), p1]
        rw [hm] at g3
        refine ⟨M, ?_, F⟩
        refine r_iload_n dX4_receive_21 rfl rfl ?_
        refine r_iload_n dX4_receive_22 rfl rfl ?_
        refine r_icmp_gt 117 dX4_receive_23 (by decide) (fun c_23 => absurd c_23 c23) (fun c_23 => ?_)
        refine r_aload_n dX4_receive_26 rfl rfl ?_
        refine r_getR (N := 13) dX4_receive_27 fwX4_37 (by first | rfl | assumption) (Nat.le_of_ble_eq_true rfl) rfl (by first | rfl | assumption) ?_
        refine r_aload_n dX4_receive_30 rfl rfl ?_
        refine r_iload_n dX4_receive_31 rfl rfl ?_
        refine gV1 (Y := mX4_wordAt) (ci := 4) (N := 13) dX4_receive_32 mlX4_110 vkX4_wordAt (by first | rfl | assumption) ⟨by decide, rfl⟩ rfl g1 ?_
        refine r_iload_n dX4_receive_35 rfl rfl ?_
        refine gV2 (Y := mX1_valueOf) (ci := 1) (N := 2) dX4_receive_36 mlX4_113 vkX1_valueOf (by first | rfl | assumption) ⟨by decide, rfl⟩ rfl g2 ?_
        refine r_istore_4 dX4_receive_39 rfl (Nat.le_of_ble_eq_true rfl) ?_
        refine r_iload dX4_receive_41 rfl ?_
        refine r_if_ge 50 dX4_receive_43 (by decide) (fun c_43 => ?_) (fun c_43 => absurd (nlt_le hneg) c_43)
        refine r_aload_n dX4_receive_50 rfl rfl ?_
        refine r_iload dX4_receive_51 rfl ?_
        refine r_iload_n dX4_receive_53 rfl rfl ?_
        refine r_iload_n dX4_receive_54 rfl rfl ?_
        refine gV3 (Y := mX4_isMisplaced) (ci := 4) (N := 13) dX4_receive_55 mlX4_116 vkX4_isMisplaced (by first | rfl | assumption) ⟨by decide, rfl⟩ rfl g3 ?_
        refine r_if_eq 63 dX4_receive_58 (by decide) (fun c_58 => absurd c_58 (by decide)) (fun c_58 => ?_)
        refine r_iconst 3 dX4_receive_61 (by decide) ?_
        refine r_ireturn dX4_receive_62 rfl (Nat.zero_le _) (Nat.zero_le _) ?_
        exact ⟨rfl, rfl⟩
      | false =>
        rw [if_pos (pw_0 hneg hm)]
        rw [hm] at g3
        rcases Nat.eq_zero_or_pos w with h0 | h0
        · subst h0
          obtain ⟨M', w', F'⟩ := ih 1 M (by omega) H hok F
          refine ⟨M', ?_, F'⟩
          refine r_iload_n dX4_receive_21 rfl rfl ?_
          refine r_iload_n dX4_receive_22 rfl rfl ?_
          refine r_icmp_gt 117 dX4_receive_23 (by decide) (fun c_23 => absurd c_23 c23) (fun c_23 => ?_)
          refine r_aload_n dX4_receive_26 rfl rfl ?_
          refine r_getR (N := 13) dX4_receive_27 fwX4_37 (by first | rfl | assumption) (Nat.le_of_ble_eq_true rfl) rfl (by first | rfl | assumption) ?_
          refine r_aload_n dX4_receive_30 rfl rfl ?_
          refine r_iload_n dX4_receive_31 rfl rfl ?_
          refine gV1 (Y := mX4_wordAt) (ci := 4) (N := 13) dX4_receive_32 mlX4_110 vkX4_wordAt (by first | rfl | assumption) ⟨by decide, rfl⟩ rfl g1 ?_
          refine r_iload_n dX4_receive_35 rfl rfl ?_
          refine gV2 (Y := mX1_valueOf) (ci := 1) (N := 2) dX4_receive_36 mlX4_113 vkX1_valueOf (by first | rfl | assumption) ⟨by decide, rfl⟩ rfl g2 ?_
          refine r_istore_4 dX4_receive_39 rfl (Nat.le_of_ble_eq_true rfl) ?_
          refine r_iload dX4_receive_41 rfl ?_
          refine r_if_ge 50 dX4_receive_43 (by decide) (fun c_43 => ?_) (fun c_43 => absurd (nlt_le hneg) c_43)
          refine r_aload_n dX4_receive_50 rfl rfl ?_
          refine r_iload dX4_receive_51 rfl ?_
          refine r_iload_n dX4_receive_53 rfl rfl ?_
          refine r_iload_n dX4_receive_54 rfl rfl ?_
          refine gV3 (Y := mX4_isMisplaced) (ci := 4) (N := 13) dX4_receive_55 mlX4_116 vkX4_isMisplaced (by first | rfl | assumption) ⟨by decide, rfl⟩ rfl g3 ?_
          refine r_if_eq 63 dX4_receive_58 (by decide) (fun c_58 => ?_) (fun c_58 => absurd rfl c_58)
          refine x_rc_ex ?_
          refine r_iload_n dX4_receive_86 rfl rfl ?_
          refine r_if_le 111 dX4_receive_87 (by decide) (fun c_87 => ?_) (fun c_87 => absurd (by decide) c_87)
          refine r_iinc_3 (_ + 1) dX4_receive_111 rfl (Nat.le_of_ble_eq_true rfl) rfl ?_
          refine r_goto 21 dX4_receive_114 (by decide) ?_
          rw [nI_1]
          exact r_weak (by simp [lvle] <;> (repeat' apply And.intro) <;> first | rfl | decide) w'
        · obtain ⟨j, rfl⟩ : ∃ j, w = j + 1 := ⟨w - 1, by omega⟩
          by_cases hjl : j + 1 < l
          · obtain ⟨k, hk, he⟩ := cvf_nn hx hneg
            have hv : okB (cvf (xW (M0 10) (j + 1)) (eR (xW (M0 10)) (j + 1))) := by
              unfold misp at hm
              rw [if_neg (by omega), if_neg (by omega), decide_eq_false_iff_not] at hm
              rw [he] at hm ⊢
              exact okB_v hm hk
            have hrb : okB (rb (xW (M0 10)) j) := okB_xor hv (sc_tab j (by omega)).2
            have m1 : min (j + 1 - 1) (l - 1) = j := by omega
            have m2 : min (j + 1 + 1 - 1) (l - 1) = j + 1 := by omega
            rw [m1] at H hok
            have g4 := x_scr_i TS1 (b := cvf (xW (M0 10) (j + 1)) (eR (xW (M0 10)) (j + 1))) (j := j) (by omega)
            obtain ⟨M1, g5, H1, F1⟩ := b_addX (x := rb (xW (M0 10)) j) isBy8 H (by omega) hrb.symm
            obtain ⟨M', w', F'⟩ := ih (j + 1 + 1) M1 (by omega) (by rw [m2]; exact H1) (by rw [m2]; intro i hi; exact (Nat.lt_or_ge i j).elim (hok i) (fun q => by rw [show i = j by omega]; exact hrb)) (F.tr F1.S)
            refine ⟨M', ?_, F'⟩
            refine r_iload_n dX4_receive_21 rfl rfl ?_
            refine r_iload_n dX4_receive_22 rfl rfl ?_
            refine r_icmp_gt 117 dX4_receive_23 (by decide) (fun c_23 => absurd c_23 c23) (fun c_23 => ?_)
            refine r_aload_n dX4_receive_26 rfl rfl ?_
            refine r_getR (N := 13) dX4_receive_27 fwX4_37 (by first | rfl | assumption) (Nat.le_of_ble_eq_true rfl) rfl (by first | rfl | assumption) ?_
            refine r_aload_n dX4_receive_30 rfl rfl ?_
            refine r_iload_n dX4_receive_31 rfl rfl ?_
            refine gV1 (Y := mX4_wordAt) (ci := 4) (N := 13) dX4_receive_32 mlX4_110 vkX4_wordAt (by first | rfl | assumption) ⟨by decide, rfl⟩ rfl g1 ?_
            refine r_iload_n dX4_receive_35 rfl rfl ?_
            refine gV2 (Y := mX1_valueOf) (ci := 1) (N := 2) dX4_receive_36 mlX4_113 vkX1_valueOf (by first | rfl | assumption) ⟨by decide, rfl⟩ rfl g2 ?_
            refine r_istore_4 dX4_receive_39 rfl (Nat.le_of_ble_eq_true rfl) ?_
            refine r_iload dX4_receive_41 rfl ?_
            refine r_if_ge 50 dX4_receive_43 (by decide) (fun c_43 => ?_) (fun c_43 => absurd (nlt_le hneg) c_43)
            refine r_aload_n dX4_receive_50 rfl rfl ?_
            refine r_iload dX4_receive_51 rfl ?_
            refine r_iload_n dX4_receive_53 rfl rfl ?_
            refine r_iload_n dX4_receive_54 rfl rfl ?_
            refine gV3 (Y := mX4_isMisplaced) (ci := 4) (N := 13) dX4_receive_55 mlX4_116 vkX4_isMisplaced (by first | rfl | assumption) ⟨by decide, rfl⟩ rfl g3 ?_
            refine r_if_eq 63 dX4_receive_58 (by decide) (fun c_58 => ?_) (fun c_58 => absurd rfl c_58)
            refine x_rc_ex ?_
            refine r_iload_n dX4_receive_86 rfl rfl ?_
            refine r_if_le 111 dX4_receive_87 (by decide) (fun c_87 => absurd c_87 (nI_nle (by omega) (by omega))) (fun c_87 => ?_)
            refine r_iload_n dX4_receive_90 rfl rfl ?_
            refine r_iload_n dX4_receive_91 rfl rfl ?_
            refine r_icmp_ge 111 dX4_receive_92 (by decide) (fun c_92 => absurd c_92 (nI_ge (by omega) (by omega))) (fun c_92 => ?_)
            refine r_aload_n dX4_receive_95 rfl rfl ?_
            refine r_getR (N := 13) dX4_receive_96 fwX4_22 (by first | rfl | assumption) (Nat.le_of_ble_eq_true rfl) rfl (by first | rfl | assumption) ?_
            refine r_aload_n dX4_receive_99 rfl rfl ?_
            refine r_iload dX4_receive_100 rfl ?_
            refine r_iload_n dX4_receive_102 rfl rfl ?_
            refine r_iconst 1 dX4_receive_103 (by decide) ?_
            refine r_isub dX4_receive_104 ?_
            rw [nI_m1]
            refine gV2 (Y := mX4_scrambled) (ci := 4) (N := 13) dX4_receive_105 mlX4_94 vkX4_scrambled (by first | rfl | assumption) ⟨by decide, rfl⟩ rfl g4 ?_
            refine gW1 (Y := mX0_add) (ci := 0) (N := 2) dX4_receive_108 mlX4_120 vkX0_add (by first | rfl | assumption) ⟨by decide, rfl⟩ rfl g5 ?_
            refine r_iinc_3 (_ + 1) dX4_receive_111 rfl (Nat.le_of_ble_eq_true rfl) rfl ?_
            refine r_goto 21 dX4_receive_114 (by decide) ?_
            rw [nI_1]
            exact r_weak (by simp [lvle] <;> (repeat' apply And.intro) <;> first | rfl | decide) w'
          · have hjl : j + 1 = l := by omega
            have m1 : min (j + 1 - 1) (l - 1) = min (j + 1 + 1 - 1) (l - 1) := by omega
            rw [m1] at H hok
            obtain ⟨M', w', F'⟩ := ih (j + 1 + 1) M (by omega) H hok F
            refine ⟨M', ?_, F'⟩
            refine r_iload_n dX4_receive_21 rfl rfl ?_
            refine r_iload_n dX4_receive_22 rfl rfl ?_
            refine r_icmp_gt 117 dX4_receive_23 (by decide) (fun c_23 => absurd c_23 c23) (fun c_23 => ?_)
            refine r_aload_n dX4_receive_26 rfl rfl ?_
            refine r_getR (N := 13) dX4_receive_27 fwX4_37 (by first | rfl | assumption) (Nat.le_of_ble_eq_true rfl) rfl (by first | rfl | assumption) ?_
            refine r_aload_n dX4_receive_30 rfl rfl ?_
            refine r_iload_n dX4_receive_31 rfl rfl ?_
            refine gV1 (Y := mX4_wordAt) (ci := 4) (N := 13) dX4_receive_32 mlX4_110 vkX4_wordAt (by first | rfl | assumption) ⟨by decide, rfl⟩ rfl g1 ?_
            refine r_iload_n dX4_receive_35 rfl rfl ?_
            refine gV2 (Y := mX1_valueOf) (ci := 1) (N := 2) dX4_receive_36 mlX4_113 vkX1_valueOf (by first | rfl | assumption) ⟨by decide, rfl⟩ rfl g2 ?_
            refine r_istore_4 dX4_receive_39 rfl (Nat.le_of_ble_eq_true rfl) ?_
            refine r_iload dX4_receive_41 rfl ?_
            refine r_if_ge 50 dX4_receive_43 (by decide) (fun c_43 => ?_) (fun c_43 => absurd (nlt_le hneg) c_43)
            refine r_aload_n dX4_receive_50 rfl rfl ?_
            refine r_iload dX4_receive_51 rfl ?_
            refine r_iload_n dX4_receive_53 rfl rfl ?_
            refine r_iload_n dX4_receive_54 rfl rfl ?_
            refine gV3 (Y := mX4_isMisplaced) (ci := 4) (N := 13) dX4_receive_55 mlX4_116 vkX4_isMisplaced (by first | rfl | assumption) ⟨by decide, rfl⟩ rfl g3 ?_
            refine r_if_eq 63 dX4_receive_58 (by decide) (fun c_58 => ?_) (fun c_58 => absurd rfl c_58)
            refine x_rc_ex ?_
            refine r_iload_n dX4_receive_86 rfl rfl ?_
            refine r_if_le 111 dX4_receive_87 (by decide) (fun c_87 => absurd c_87 (nI_nle (by omega) (by omega))) (fun c_87 => ?_)
            refine r_iload_n dX4_receive_90 rfl rfl ?_
            refine r_iload_n dX4_receive_91 rfl rfl ?_
            refine r_icmp_ge 111 dX4_receive_92 (by decide) (fun c_92 => ?_) (fun c_92 => absurd (nI_le (by omega) (by omega)) c_92)
            refine r_iinc_3 (_ + 1) dX4_receive_111 rfl (Nat.le_of_ble_eq_true rfl) rfl ?_
            refine r_goto 21 dX4_receive_114 (by decide) ?_
            rw [nI_1]
            exact r_weak (by simp [lvle] <;> (repeat' apply And.intro) <;> first | rfl | decide) w'
set_option maxHeartbeats 4000000 in
set_option maxRecDepth 100000 in
theorem x_receive {M : Mem} {l : Nat} (T : TabC M) (TS : TabS M) (hl : 6 ≤ l) (hl2 : l ≤ 17) (hb : M 4 5 = nI (10 * (l + 1))) (h01 : is01 (M 10) (10 * (l + 1))) : ∃ M', Gv mX4_receive [.ref 4] M (some (.int (rcv (xW (M 10)) l))) M' ∧ FrS [8, 9] [] M M' := by
  obtain ⟨M1, g1, H1, F1⟩ := b_clearX (M := M) isBy8 (rb (xW (M 10)))
  have F1 := F1.S
  have r10 : M1 10 = M 10 := F1.row (by decide) (by simp)
  obtain ⟨M', w, F'⟩ := x_rc_lp (M0 := M1) (T.frS F1 (by decide) (by decide)) (TS.frS F1 (by decide) (by decide)) hl hl2 (by rw [r10]; exact h01) (l + 1) 0 M1 (by omega) (by rw [r10]; exact H1) (fun j q => absurd q (by omega)) FrS.rf
  rw [r10] at w
  refine ⟨M', ?_, F1.tr F'⟩
  have hd : nI (10 * (l + 1)) / 10 = nI (l + 1) := by
    rw [show (nI (10 * (l + 1)) / 10 : Int32) = nI (10 * (l + 1) / 10) from pk_div (a := 10 * (l + 1)) (d := 10) (by omega) (by decide) (by decide)]
    congr 1
    omega
  refine con_of (lv := [some (.ref 4), none, none, none, none]) (by decide) rfl (Nat.le_of_ble_eq_true rfl) (by simp [lvle]) ?_
  refine r_aload_n dX4_receive_0 rfl rfl ?_
  refine r_getI (N := 13) dX4_receive_1 fwX4_43 (by first | rfl | assumption) (Nat.le_of_ble_eq_true rfl) rfl ?_
  refine r_bipush 10 dX4_receive_4 (by decide) ?_
  refine r_idiv dX4_receive_6 (by decide) ?_
  rw [hb, hd]
  refine r_iconst 1 dX4_receive_7 (by decide) ?_
  refine r_isub dX4_receive_8 ?_
  rw [nI_m1]
  refine r_istore_n1 dX4_receive_9 rfl (Nat.le_of_ble_eq_true rfl) ?_
  refine r_iconst 0 dX4_receive_10 (by decide) ?_
  refine r_istore_n2 dX4_receive_11 rfl (Nat.le_of_ble_eq_true rfl) ?_
  refine r_aload_n dX4_receive_12 rfl rfl ?_
  refine r_getR (N := 13) dX4_receive_13 fwX4_22 (by first | rfl | assumption) (Nat.le_of_ble_eq_true rfl) rfl (by first | rfl | assumption) ?_
  refine gW0 (Y := mX0_clear) (ci := 0) (N := 2) dX4_receive_16 mlX4_107 vkX0_clear (by first | rfl | assumption) ⟨by decide, rfl⟩ rfl g1 ?_
  refine r_iconst 0 dX4_receive_19 (by decide) ?_
  refine r_istore_n3 dX4_receive_20 rfl (Nat.le_of_ble_eq_true rfl) ?_
  exact w
end
section
set_option maxHeartbeats 4000000 in
set_option maxRecDepth 100000 in
theorem m_fw_lp {M : Mem} {k nb : Nat} {wo : Int32} (h01 : is01 (M 48) nb) (hw : 10 * k + 10 ≤ nb) (hn : nb ≤ 180) {Q : Option Value → Hp → Prop} (hq : WP mX6_findWord 35 [some (.ref 40), some (.int (nI k)), some (.int wo), some (.int (nI (xW (M 48) k))), none, none] [] 0 0 (shp, rfs, M) Q) : ∀ (d i : Nat), i + d = 10 → WP mX6_findWord 5 [some (.ref 40), some (.int (nI k)), some (.int wo), some (.int (nI (wrd (bN (M 48)) (10 * k) i))), some (.int (nI i)), none] [] 0 0 (shp, rfs, M) Q := by
  intro d
  induction d with
  | zero =>
    intro i hi
    have hi : i = 10 := by omega
    subst hi
    refine r_iload dX6_findWord_5 rfl ?_
    refine r_bipush 10 dX6_findWord_7 (by decide) ?_
    refine r_icmp_ge 35 dX6_findWord_9 (by decide) (fun c_9 => ?_) (fun c_9 => absurd (by decide) c_9)
    exact r_weak (by simp [lvle] <;> (repeat' apply And.intro) <;> first | rfl | decide) hq
  | succ d ih =>
    intro i hi
    have hcl : (nI (10 * k + i)).toNatClampNeg = 10 * k + i := nI_clamp (by omega)
    obtain ⟨e1, e2⟩ := bN_ok h01 (j := 10 * k + i) (by omega)
    have hix : 10 * nI k + nI i = nI (10 * k + i) := by rw [show (10 : Int32) * nI k = nI (10 * k) from pk_mul 10 k, nI_add]
    have hac : 2 * nI (wrd (bN (M 48)) (10 * k) i) + nI (bN (M 48) (10 * k + i)) = nI (wrd (bN (M 48)) (10 * k) (i + 1)) := by rw [show (2 : Int32) * nI (wrd (bN (M 48)) (10 * k) i) = nI (2 * wrd (bN (M 48)) (10 * k) i) from pk_mul 2 _, nI_add]; rfl
    refine r_iload dX6_findWord_5 rfl ?_
    refine r_bipush 10 dX6_findWord_7 (by decide) ?_
    refine r_icmp_ge 35 dX6_findWord_9 (by decide) (fun c_9 => absurd c_9 (nI_ge (a := i) (b := 10) (by omega) (by decide))) (fun c_9 => ?_)
    refine r_iconst 2 dX6_findWord_12 (by decide) ?_
    refine r_iload_n dX6_findWord_13 rfl rfl ?_
    refine r_imul dX6_findWord_14 ?_
    refine r_aload_n dX6_findWord_15 rfl rfl ?_
    refine r_getR (N := 35) dX6_findWord_16 fwX6_31 (by first | rfl | assumption) (Nat.le_of_ble_eq_true rfl) rfl (by first | rfl | assumption) ?_
    refine r_bipush 10 dX6_findWord_19 (by decide) ?_
    refine r_iload_n dX6_findWord_21 rfl rfl ?_
    refine r_imul dX6_findWord_22 ?_
    refine r_iload dX6_findWord_23 rfl ?_
    refine r_iadd dX6_findWord_25 ?_
    rw [hix]
    refine r_iaload dX6_findWord_26 (by first | rfl | assumption) (by exact vp_in_nI (by omega) (by decide)) ?_
    rw [hcl, e1]
    refine r_iadd dX6_findWord_27 ?_
    rw [hac]
    refine r_istore_n3 dX6_findWord_28 rfl (Nat.le_of_ble_eq_true rfl) ?_
    refine r_iinc_4 (_ + 1) dX6_findWord_29 rfl (Nat.le_of_ble_eq_true rfl) rfl ?_
    refine r_goto 5 dX6_findWord_32 (by decide) ?_
    rw [nI_1]
    exact ih (i + 1) (by omega)
set_option maxHeartbeats 4000000 in
set_option maxRecDepth 100000 in
theorem m_fw_tail {M : Mem} {k l : Nat} {x : Int32} (hk : k ≤ l) (hl : l ≤ 17) {b v : Option Value} : WP mX6_findWord 135 [some (.ref 40), some (.int (nI k)), some (.int (nI (l + 1))), some (.int x), none, none] [] 0 0 (shp, rfs, M) (fun r1 h1 => r1 = some (.int (if misp (M 50 k) k l = true then 3 else 0)) ∧ h1 = (shp, rfs, M)) := by
  have hcl : (nI k).toNatClampNeg = k := nI_clamp (by omega)
  by_cases h0 : k = 0
  · subst h0
    refine r_iload_n dX6_findWord_135 rfl rfl ?_
    refine r_if_ne 159 dX6_findWord_136 (by decide) (fun c_136 => absurd nI_0 c_136) (fun c_136 => ?_)
    refine r_aload_n dX6_findWord_139 rfl rfl ?_
    refine r_getR (N := 35) dX6_findWord_140 fwX6_37 (by first | rfl | assumption) (Nat.le_of_ble_eq_true rfl) rfl (by first | rfl | assumption) ?_
    refine r_iload_n dX6_findWord_143 rfl rfl ?_
    refine r_iaload dX6_findWord_144 (by first | rfl | assumption) (by exact vp_in_nI (by omega) (by decide)) ?_
    refine r_sipush 256 dX6_findWord_145 (by decide) ?_
    rw [hcl]
    refine r_icmp_ne 155 dX6_findWord_148 (by decide) (fun c_148 => ?_) (fun c_148 => ?_)
    · refine r_iconst 0 dX6_findWord_155 (by decide) ?_
      refine r_goto 203 dX6_findWord_156 (by decide) ?_
      refine r_istore_5 dX6_findWord_203 rfl (Nat.le_of_ble_eq_true rfl) ?_
      refine r_iload dX6_findWord_205 rfl ?_
      refine r_if_eq 214 dX6_findWord_207 (by decide) (fun c_207 => ?_) (fun c_207 => ?_)
      · refine r_iconst 3 dX6_findWord_214 (by decide) ?_
        refine r_ireturn dX6_findWord_215 rfl (Nat.zero_le _) (Nat.zero_le _) ?_
        refine ⟨?_, rfl⟩
        unfold misp
        rw [if_pos rfl]
        first | (rw [decide_eq_true c_148, if_pos rfl]; exact absurd rfl c_207) | (rw [decide_eq_true c_148, if_pos rfl]) | (rw [decide_eq_false (fun q => q c_148)]; rfl) | exact absurd c_207 (by decide)
      · refine r_iconst 0 dX6_findWord_210 (by decide) ?_
        refine r_goto 215 dX6_findWord_211 (by decide) ?_
        refine r_ireturn dX6_findWord_215 rfl (Nat.zero_le _) (Nat.zero_le _) ?_
        refine ⟨?_, rfl⟩
        unfold misp
        rw [if_pos rfl]
        first | (rw [decide_eq_true c_148, if_pos rfl]; exact absurd rfl c_207) | (rw [decide_eq_true c_148, if_pos rfl]) | (rw [decide_eq_false (fun q => q c_148)]; rfl) | exact absurd c_207 (by decide)
    · refine r_iconst 1 dX6_findWord_151 (by decide) ?_
      refine r_goto 203 dX6_findWord_152 (by decide) ?_
      refine r_istore_5 dX6_findWord_203 rfl (Nat.le_of_ble_eq_true rfl) ?_
      refine r_iload dX6_findWord_205 rfl ?_
      refine r_if_eq 214 dX6_findWord_207 (by decide) (fun c_207 => ?_) (fun c_207 => ?_)
      · refine r_iconst 3 dX6_findWord_214 (by decide) ?_
        refine r_ireturn dX6_findWord_215 rfl (Nat.zero_le _) (Nat.zero_le _) ?_
        refine ⟨?_, rfl⟩
        unfold misp
        rw [if_pos rfl]
        first | (rw [decide_eq_true c_148, if_pos rfl]; exact absurd rfl c_207) | (rw [decide_eq_true c_148, if_pos rfl]) | (rw [decide_eq_false (fun q => q c_148)]; rfl) | exact absurd c_207 (by decide)
      · refine r_iconst 0 dX6_findWord_210 (by decide) ?_
        refine r_goto 215 dX6_findWord_211 (by decide) ?_
        refine r_ireturn dX6_findWord_215 rfl (Nat.zero_le _) (Nat.zero_le _) ?_
        refine ⟨?_, rfl⟩
        unfold misp
        rw [if_pos rfl]
        first | (rw [decide_eq_true c_148, if_pos rfl]; exact absurd rfl c_207) | (rw [decide_eq_true c_148, if_pos rfl]) | (rw [decide_eq_false (fun q => q c_148)]; rfl) | exact absurd c_207 (by decide)
  · have hn0 : ¬ nI k = 0 := nI_ne0 (by omega) (by omega)
    by_cases hkl : k = l
    · subst hkl
      refine r_iload_n dX6_findWord_135 rfl rfl ?_
      refine r_if_ne 159 dX6_findWord_136 (by decide) (fun c_136 => ?_) (fun c_136 => absurd c_136 hn0)
      refine r_iload_n dX6_findWord_159 rfl rfl ?_
      refine r_iload_n dX6_findWord_160 rfl rfl ?_
      refine r_iconst 1 dX6_findWord_161 (by decide) ?_
      refine r_isub dX6_findWord_162 ?_
      rw [nI_m1]
      refine r_icmp_ne 186 dX6_findWord_163 (by decide) (fun c_163 => absurd rfl c_163) (fun c_163 => ?_)
      refine r_aload_n dX6_findWord_166 rfl rfl ?_
      refine r_getR (N := 35) dX6_findWord_167 fwX6_37 (by first | rfl | assumption) (Nat.le_of_ble_eq_true rfl) rfl (by first | rfl | assumption) ?_
      refine r_iload_n dX6_findWord_170 rfl rfl ?_
      refine r_iaload dX6_findWord_171 (by first | rfl | assumption) (by exact vp_in_nI (by omega) (by decide)) ?_
      refine r_sipush 257 dX6_findWord_172 (by decide) ?_
      rw [hcl]
      refine r_icmp_ne 182 dX6_findWord_175 (by decide) (fun c_175 => ?_) (fun c_175 => ?_)
      · refine r_iconst 0 dX6_findWord_182 (by decide) ?_
        refine r_goto 203 dX6_findWord_183 (by decide) ?_
        refine r_istore_5 dX6_findWord_203 rfl (Nat.le_of_ble_eq_true rfl) ?_
        refine r_iload dX6_findWord_205 rfl ?_
        refine r_if_eq 214 dX6_findWord_207 (by decide) (fun c_207 => ?_) (fun c_207 => ?_)
        · refine r_iconst 3 dX6_findWord_214 (by decide) ?_
          refine r_ireturn dX6_findWord_215 rfl (Nat.zero_le _) (Nat.zero_le _) ?_
          refine ⟨?_, rfl⟩
          unfold misp
          rw [if_neg h0, if_pos rfl]
          first | (rw [decide_eq_true c_175, if_pos rfl]; exact absurd rfl c_207) | (rw [decide_eq_true c_175, if_pos rfl]) | (rw [decide_eq_false (fun q => q c_175)]; rfl) | exact absurd c_207 (by decide)
        · refine r_iconst 0 dX6_findWord_210 (by decide) ?_
          refine r_goto 215 dX6_findWord_211 (by decide) ?_
          refine r_ireturn dX6_findWord_215 rfl (Nat.zero_le _) (Nat.zero_le _) ?_
          refine ⟨?_, rfl⟩
          unfold misp
          rw [if_neg h0, if_pos rfl]
          first | (rw [decide_eq_true c_175, if_pos rfl]; exact absurd rfl c_207) | (rw [decide_eq_true c_175, if_pos rfl]) | (rw [decide_eq_false (fun q => q c_175)]; rfl) | exact absurd c_207 (by decide)
      · refine r_iconst 1 dX6_findWord_178 (by decide) ?_
        refine r_goto 203 dX6_findWord_179 (by decide) ?_
        refine r_istore_5 dX6_findWord_203 rfl (Nat.le_of_ble_eq_true rfl) ?_
        refine r_iload dX6_findWord_205 rfl ?_
        refine r_if_eq 214 dX6_findWord_207 (by decide) (fun c_207 => ?_) (fun c_207 => ?_)
        · refine r_iconst 3 dX6_findWord_214 (by decide) ?_
          refine r_ireturn dX6_findWord_215 rfl (Nat.zero_le _) (Nat.zero_le _) ?_
          refine ⟨?_, rfl⟩
          unfold misp
          rw [if_neg h0, if_pos rfl]
          first | (rw [decide_eq_true c_175, if_pos rfl]; exact absurd rfl c_207) | (rw [decide_eq_true c_175, if_pos rfl]) | (rw [decide_eq_false (fun q => q c_175)]; rfl) | exact absurd c_207 (by decide)
        · refine r_iconst 0 dX6_findWord_210 (by decide) ?_
          refine r_goto 215 dX6_findWord_211 (by decide) ?_
          refine r_ireturn dX6_findWord_215 rfl (Nat.zero_le _) (Nat.zero_le _) ?_
          refine ⟨?_, rfl⟩
          unfold misp
          rw [if_neg h0, if_pos rfl]
          first | (rw [decide_eq_true c_175, if_pos rfl]; exact absurd rfl c_207) | (rw [decide_eq_true c_175, if_pos rfl]) | (rw [decide_eq_false (fun q => q c_175)]; rfl) | exact absurd c_207 (by decide)
    · refine r_iload_n dX6_findWord_135 rfl rfl ?_
      refine r_if_ne 159 dX6_findWord_136 (by decide) (fun c_136 => ?_) (fun c_136 => absurd c_136 hn0)
      refine r_iload_n dX6_findWord_159 rfl rfl ?_
      refine r_iload_n dX6_findWord_160 rfl rfl ?_
      refine r_iconst 1 dX6_findWord_161 (by decide) ?_
      refine r_isub dX6_findWord_162 ?_
      rw [nI_m1]
      refine r_icmp_ne 186 dX6_findWord_163 (by decide) (fun c_163 => ?_) (fun c_163 => absurd ((nI_eq (by omega) (by omega)).mp c_163) hkl)
      refine r_aload_n dX6_findWord_186 rfl rfl ?_
      refine r_getR (N := 35) dX6_findWord_187 fwX6_37 (by first | rfl | assumption) (Nat.le_of_ble_eq_true rfl) rfl (by first | rfl | assumption) ?_
      refine r_iload_n dX6_findWord_190 rfl rfl ?_
      refine r_iaload dX6_findWord_191 (by first | rfl | assumption) (by exact vp_in_nI (by omega) (by decide)) ?_
      refine r_sipush 256 dX6_findWord_192 (by decide) ?_
      rw [hcl]
      refine r_icmp_ge 202 dX6_findWord_195 (by decide) (fun c_195 => ?_) (fun c_195 => ?_)
      · refine r_iconst 0 dX6_findWord_202 (by decide) ?_
        refine r_istore_5 dX6_findWord_203 rfl (Nat.le_of_ble_eq_true rfl) ?_
        refine r_iload dX6_findWord_205 rfl ?_
        refine r_if_eq 214 dX6_findWord_207 (by decide) (fun c_207 => ?_) (fun c_207 => ?_)
        · refine r_iconst 3 dX6_findWord_214 (by decide) ?_
          refine r_ireturn dX6_findWord_215 rfl (Nat.zero_le _) (Nat.zero_le _) ?_
          refine ⟨?_, rfl⟩
          unfold misp
          rw [if_neg h0, if_neg hkl]
          first | (rw [decide_eq_true c_195, if_pos rfl]; exact absurd rfl c_207) | (rw [decide_eq_true c_195, if_pos rfl]) | (rw [decide_eq_false c_195]; rfl) | exact absurd c_207 (by decide)
        · refine r_iconst 0 dX6_findWord_210 (by decide) ?_
          refine r_goto 215 dX6_findWord_211 (by decide) ?_
          refine r_ireturn dX6_findWord_215 rfl (Nat.zero_le _) (Nat.zero_le _) ?_
          refine ⟨?_, rfl⟩
          unfold misp
          rw [if_neg h0, if_neg hkl]
          first | (rw [decide_eq_true c_195, if_pos rfl]; exact absurd rfl c_207) | (rw [decide_eq_true c_195, if_pos rfl]) | (rw [decide_eq_false c_195]; rfl) | exact absurd c_207 (by decide)
      · refine r_iconst 1 dX6_findWord_198 (by decide) ?_
        refine r_goto 203 dX6_findWord_199 (by decide) ?_
        refine r_istore_5 dX6_findWord_203 rfl (Nat.le_of_ble_eq_true rfl) ?_
        refine r_iload dX6_findWord_205 rfl ?_
        refine r_if_eq 214 dX6_findWord_207 (by decide) (fun c_207 => ?_) (fun c_207 => ?_)
        · refine r_iconst 3 dX6_findWord_214 (by decide) ?_
          refine r_ireturn dX6_findWord_215 rfl (Nat.zero_le _) (Nat.zero_le _) ?_
          refine ⟨?_, rfl⟩
          unfold misp
          rw [if_neg h0, if_neg hkl]
          first | (rw [decide_eq_true c_195, if_pos rfl]; exact absurd rfl c_207) | (rw [decide_eq_true c_195, if_pos rfl]) | (rw [decide_eq_false c_195]; rfl) | exact absurd c_207 (by decide)
        · refine r_iconst 0 dX6_findWord_210 (by decide) ?_
          refine r_goto 215 dX6_findWord_211 (by decide) ?_
          refine r_ireturn dX6_findWord_215 rfl (Nat.zero_le _) (Nat.zero_le _) ?_
          refine ⟨?_, rfl⟩
          unfold misp
          rw [if_neg h0, if_neg hkl]
          first | (rw [decide_eq_true c_195, if_pos rfl]; exact absurd rfl c_207) | (rw [decide_eq_true c_195, if_pos rfl]) | (rw [decide_eq_false c_195]; rfl) | exact absurd c_207 (by decide)
end
section
theorem eR_s {X : Nat → Nat} {w : Nat} {v : Int32} (h : cvf (X w) (eR X w) = v) : eR X (w + 1) = Bool.xor (eR X w) (decide (252 ≤ v)) := by
  show Bool.xor _ _ = _
  rw [h]
theorem m_gg {M : Mem} {k : Nat} {v : Int32} : (upd2 M 50 k v) 50 k = v := u_ss
set_option maxHeartbeats 4000000 in
set_option maxRecDepth 100000 in
theorem m_findWord {M : Mem} {k l : Nat} (T : TabM M) (hk : k ≤ l) (hl : l ≤ 17) (h01 : is01 (M 48) (10 * (l + 1))) (he : M 40 34 = eI (eR (xW (M 48)) k)) : ∃ M', Gv mX6_findWord [.ref 40, .int (nI k), .int (nI (l + 1))] M (some (.int (pw (xW (M 48) k) (eR (xW (M 48)) k) k l))) M' ∧ FrS [50] [(40, 34)] M M' ∧ (pw (xW (M 48) k) (eR (xW (M 48)) k) k l = 0 → M' 50 k = cvf (xW (M 48) k) (eR (xW (M 48)) k) ∧ M' 40 34 = eI (eR (xW (M 48)) (k + 1)) ∧ ∀ j, j ≠ k → M' 50 j = M 50 j) := by
  have hx : xW (M 48) k < 1024 := xW_lt h01 (by omega)
  have hcl : (nI (xW (M 48) k)).toNatClampNeg = xW (M 48) k := nI_clamp (by omega)
  have hclk : (nI k).toNatClampNeg = k := nI_clamp (by omega)
  have ht := T.2.1 _ hx
  have u0 := m_unevenOf T (w := xW (M 48) k) (e := false)
  have u1 := m_unevenOf T (w := xW (M 48) k) (e := true)
  have ue := m_unevenOf T (w := xW (M 48) k) (e := eR (xW (M 48)) k)
  have vo := m_valueOf T hx (e := eR (xW (M 48)) k)
  rw [← he] at ue vo
  have go : ∀ (M' : Mem), WP mX6_findWord 35 [some (.ref 40), some (.int (nI k)), some (.int (nI (l + 1))), some (.int (nI (xW (M 48) k))), none, none] [] 0 0 (shp, rfs, M) (fun r1 h1 => r1 = some (.int (pw (xW (M 48) k) (eR (xW (M 48)) k) k l)) ∧ h1 = (shp, rfs, M')) → Gv mX6_findWord [.ref 40, .int (nI k), .int (nI (l + 1))] M (some (.int (pw (xW (M 48) k) (eR (xW (M 48)) k) k l))) M' := by
    intro M' h
    have h2 := m_fw_lp (k := k) (wo := nI (l + 1)) h01 (by omega) (by omega) h 10 0 rfl
    refine con_of (lv := [some (.ref 40), some (.int (nI k)), some (.int (nI (l + 1))), none, none, none]) (by decide) rfl (Nat.le_of_ble_eq_true rfl) (by simp [lvle]) ?_
    refine r_iconst 0 dX6_findWord_0 (by decide) ?_
    refine r_istore_n3 dX6_findWord_1 rfl (Nat.le_of_ble_eq_true rfl) ?_
    refine r_iconst 0 dX6_findWord_2 (by decide) ?_
    refine r_istore_4 dX6_findWord_3 rfl (Nat.le_of_ble_eq_true rfl) ?_
    exact h2
  rcases c_kinds hx (eR (xW (M 48)) k) with ⟨i, hi, h1, h2, h3⟩ | ⟨h1, h2, h2', h3, h4⟩ | ⟨q, hq, h1, h2, h3, h4⟩ | ⟨q, hq, h1, h2, h2', h3, h4⟩
  · have hn : ¬ cvf (xW (M 48) k) (eR (xW (M 48)) k) < 0 := by rw [h2]; exact nI_pos (by omega)
    have hx2 : eR (xW (M 48)) (k + 1) = eR (xW (M 48)) k := by
      rw [eR_s h2, decide_eq_false (show ¬ (252 : Int32) ≤ nI i from nI_ge (a := i) (b := 252) hi (by decide))]
      cases eR (xW (M 48)) k <;> rfl
    have F : FrS [50] [(40, 34)] M (upd2 M 50 k (nI i)) := FrS.rf.upc (by decide)
    have ht2 := m_fw_tail (M := upd2 M 50 k (nI i)) (x := nI (xW (M 48) k)) hk hl (b := none) (v := none)
    rw [u_ss] at ht2
    have hp : pw (xW (M 48) k) (eR (xW (M 48)) k) k l = if misp (nI i) k l = true then 3 else 0 := by unfold pw; rw [if_neg hn, h2]
    refine ⟨_, go _ ?_, F, fun _ => ⟨by rw [u_ss, h2], by rw [u_nn (by decide), he, hx2], fun j hj => u_sn hj⟩⟩
    rw [hp]
    rw [h3] at vo
    refine r_aload_n dX6_findWord_35 rfl rfl ?_
    refine r_getR (N := 35) dX6_findWord_36 fwX6_13 (by first | rfl | assumption) (Nat.le_of_ble_eq_true rfl) rfl (by first | rfl | assumption) ?_
    refine r_iload_n dX6_findWord_39 rfl rfl ?_
    refine r_iaload dX6_findWord_40 (by first | rfl | assumption) (by exact vp_in_nI hx (by decide)) ?_
    refine r_iconst (-1) dX6_findWord_41 (by decide) ?_
    rw [hcl, ht, h1]
    refine r_icmp_eq 49 dX6_findWord_42 (by decide) (fun c_42 => absurd c_42 (nI_ne_m1 (by omega))) (fun c_42 => ?_)
    refine r_iconst 1 dX6_findWord_45 (by decide) ?_
    refine r_goto 50 dX6_findWord_46 (by decide) ?_
    refine r_istore_4 dX6_findWord_50 rfl (Nat.le_of_ble_eq_true rfl) ?_
    refine r_iload dX6_findWord_52 rfl ?_
    refine r_if_ne 79 dX6_findWord_54 (by decide) (fun c_54 => ?_) (fun c_54 => absurd c_54 (by decide))
    refine r_iload dX6_findWord_79 rfl ?_
    refine r_if_ne 99 dX6_findWord_81 (by decide) (fun c_81 => ?_) (fun c_81 => absurd c_81 (by decide))
    refine r_aload_n dX6_findWord_99 rfl rfl ?_
    refine r_getR (N := 35) dX6_findWord_100 fwX6_37 (by first | rfl | assumption) (Nat.le_of_ble_eq_true rfl) rfl (by first | rfl | assumption) ?_
    refine r_iload_n dX6_findWord_103 rfl rfl ?_
    refine r_aload_n dX6_findWord_104 rfl rfl ?_
    refine r_iload_n dX6_findWord_105 rfl rfl ?_
    refine r_aload_n dX6_findWord_106 rfl rfl ?_
    refine r_getI (N := 35) dX6_findWord_107 fwX6_114 (by first | rfl | assumption) (Nat.le_of_ble_eq_true rfl) rfl ?_
    refine gV2 (Y := mX6_valueOf) (ci := 6) (N := 35) dX6_findWord_110 mlX6_92 vkX6_valueOf (by first | rfl | assumption) ⟨by decide, rfl⟩ rfl vo ?_
    refine r_iastore dX6_findWord_113 (by first | rfl | assumption) (by exact vp_in_nI (by omega) (by decide)) ?_
    rw [hclk]
    refine r_iload dX6_findWord_114 rfl ?_
    refine r_if_ne 135 dX6_findWord_116 (by decide) (fun c_116 => ?_) (fun c_116 => absurd c_116 (by decide))
    exact r_weak (by simp [lvle] <;> (repeat' apply And.intro) <;> first | rfl | decide) ht2
  · have hn : cvf (xW (M 48) k) (eR (xW (M 48)) k) < 0 := by rw [h3]; decide
    obtain ⟨p1, p2⟩ := pw_n hx (w := k) (l := l) hn
    refine ⟨M, go _ ?_, FrS.rf, fun q => absurd q p2⟩
    rw [p1, h3]
    rw [h2'] at u0
    rw [h2] at u1
    refine r_aload_n dX6_findWord_35 rfl rfl ?_
    refine r_getR (N := 35) dX6_findWord_36 fwX6_13 (by first | rfl | assumption) (Nat.le_of_ble_eq_true rfl) rfl (by first | rfl | assumption) ?_
    refine r_iload_n dX6_findWord_39 rfl rfl ?_
    refine r_iaload dX6_findWord_40 (by first | rfl | assumption) (by exact vp_in_nI hx (by decide)) ?_
    refine r_iconst (-1) dX6_findWord_41 (by decide) ?_
    rw [hcl, ht, h1]
    refine r_icmp_eq 49 dX6_findWord_42 (by decide) (fun c_42 => ?_) (fun c_42 => absurd rfl c_42)
    refine r_iconst 0 dX6_findWord_49 (by decide) ?_
    refine r_istore_4 dX6_findWord_50 rfl (Nat.le_of_ble_eq_true rfl) ?_
    refine r_iload dX6_findWord_52 rfl ?_
    refine r_if_ne 79 dX6_findWord_54 (by decide) (fun c_54 => absurd rfl c_54) (fun c_54 => ?_)
    refine r_aload_n dX6_findWord_57 rfl rfl ?_
    refine r_iload_n dX6_findWord_58 rfl rfl ?_
    refine r_iconst 0 dX6_findWord_59 (by decide) ?_
    refine gV2 (Y := mX6_unevenOf) (ci := 6) (N := 35) dX6_findWord_60 mlX6_89 vkX6_unevenOf (by first | rfl | assumption) ⟨by decide, rfl⟩ rfl u0 ?_
    refine r_iconst (-1) dX6_findWord_63 (by decide) ?_
    refine r_icmp_ne 79 dX6_findWord_64 (by decide) (fun c_64 => absurd rfl c_64) (fun c_64 => ?_)
    refine r_aload_n dX6_findWord_67 rfl rfl ?_
    refine r_iload_n dX6_findWord_68 rfl rfl ?_
    refine r_iconst 1 dX6_findWord_69 (by decide) ?_
    refine gV2 (Y := mX6_unevenOf) (ci := 6) (N := 35) dX6_findWord_70 mlX6_89 vkX6_unevenOf (by first | rfl | assumption) ⟨by decide, rfl⟩ rfl u1 ?_
    refine r_iconst (-1) dX6_findWord_73 (by decide) ?_
    refine r_icmp_ne 79 dX6_findWord_74 (by decide) (fun c_74 => absurd rfl c_74) (fun c_74 => ?_)
    refine r_iconst 1 dX6_findWord_77 (by decide) ?_
    refine r_ireturn dX6_findWord_78 rfl (Nat.zero_le _) (Nat.zero_le _) ?_
    exact ⟨rfl, rfl⟩
  · have hn : ¬ cvf (xW (M 48) k) (eR (xW (M 48)) k) < 0 := by rw [h3]; exact nI_pos (by omega)
    have hx2 : eR (xW (M 48)) (k + 1) = !eR (xW (M 48)) k := by
      rw [eR_s h3, decide_eq_true (show (252 : Int32) ≤ nI (252 + q) from nI_le (a := 252) (b := 252 + q) (by omega) (by omega))]
      cases eR (xW (M 48)) k <;> rfl
    have F : FrS [50] [(40, 34)] M (upd2 (upd2 M 50 k (nI (252 + q))) 40 34 (eI (!eR (xW (M 48)) k))) := (FrS.rf.upc (by decide)).ups (by decide)
    have ht2 := m_fw_tail (M := upd2 (upd2 M 50 k (nI (252 + q))) 40 34 (eI (!eR (xW (M 48)) k))) (x := nI (xW (M 48) k)) hk hl (b := none) (v := none)
    rw [u_nn (by decide), u_ss] at ht2
    have hp : pw (xW (M 48) k) (eR (xW (M 48)) k) k l = if misp (nI (252 + q)) k l = true then 3 else 0 := by unfold pw; rw [if_neg hn, h3]
    refine ⟨_, go _ ?_, F, fun _ => ⟨by rw [u_nn (by decide), u_ss, h3], by rw [u_ss, hx2], fun j hj => by rw [u_nn (by decide), u_sn hj]⟩⟩
    rw [hp]
    rw [h4] at vo
    rw [h2] at ue
    have hue : ¬ (ufn (xW (M 48) k) false = -1 ∧ ufn (xW (M 48) k) true = -1) := by
      rintro ⟨z1, z2⟩
      refine nI_ne_m1 (i := q) (by omega) (h2 ▸ ?_)
      cases eR (xW (M 48)) k
      · exact z1
      · exact z2
    have he2 : ∀ v : Int32, (upd2 M 50 k v) 40 34 = eI (eR (xW (M 48)) k) := fun v => by rw [u_nn (by decide), he]
    refine r_aload_n dX6_findWord_35 rfl rfl ?_
    refine r_getR (N := 35) dX6_findWord_36 fwX6_13 (by first | rfl | assumption) (Nat.le_of_ble_eq_true rfl) rfl (by first | rfl | assumption) ?_
    refine r_iload_n dX6_findWord_39 rfl rfl ?_
    refine r_iaload dX6_findWord_40 (by first | rfl | assumption) (by exact vp_in_nI hx (by decide)) ?_
    refine r_iconst (-1) dX6_findWord_41 (by decide) ?_
    rw [hcl, ht, h1]
    refine r_icmp_eq 49 dX6_findWord_42 (by decide) (fun c_42 => ?_) (fun c_42 => absurd rfl c_42)
    refine r_iconst 0 dX6_findWord_49 (by decide) ?_
    refine r_istore_4 dX6_findWord_50 rfl (Nat.le_of_ble_eq_true rfl) ?_
    refine r_iload dX6_findWord_52 rfl ?_
    refine r_if_ne 79 dX6_findWord_54 (by decide) (fun c_54 => absurd rfl c_54) (fun c_54 => ?_)
    refine r_aload_n dX6_findWord_57 rfl rfl ?_
    refine r_iload_n dX6_findWord_58 rfl rfl ?_
    refine r_iconst 0 dX6_findWord_59 (by decide) ?_
    refine gV2 (Y := mX6_unevenOf) (ci := 6) (N := 35) dX6_findWord_60 mlX6_89 vkX6_unevenOf (by first | rfl | assumption) ⟨by decide, rfl⟩ rfl u0 ?_
    refine r_iconst (-1) dX6_findWord_63 (by decide) ?_
    refine r_icmp_ne 79 dX6_findWord_64 (by decide) (fun c_64 => ?_) (fun c_64 => ?_)
    · refine r_iload dX6_findWord_79 rfl ?_
      refine r_if_ne 99 dX6_findWord_81 (by decide) (fun c_81 => absurd rfl c_81) (fun c_81 => ?_)
      refine r_aload_n dX6_findWord_84 rfl rfl ?_
      refine r_iload_n dX6_findWord_85 rfl rfl ?_
      refine r_aload_n dX6_findWord_86 rfl rfl ?_
      refine r_getI (N := 35) dX6_findWord_87 fwX6_114 (by first | rfl | assumption) (Nat.le_of_ble_eq_true rfl) rfl ?_
      refine gV2 (Y := mX6_unevenOf) (ci := 6) (N := 35) dX6_findWord_90 mlX6_89 vkX6_unevenOf (by first | rfl | assumption) ⟨by decide, rfl⟩ rfl ue ?_
      refine r_iconst (-1) dX6_findWord_93 (by decide) ?_
      refine r_icmp_ne 99 dX6_findWord_94 (by decide) (fun c_94 => ?_) (fun c_94 => absurd c_94 (nI_ne_m1 (by omega)))
      refine r_aload_n dX6_findWord_99 rfl rfl ?_
      refine r_getR (N := 35) dX6_findWord_100 fwX6_37 (by first | rfl | assumption) (Nat.le_of_ble_eq_true rfl) rfl (by first | rfl | assumption) ?_
      refine r_iload_n dX6_findWord_103 rfl rfl ?_
      refine r_aload_n dX6_findWord_104 rfl rfl ?_
      refine r_iload_n dX6_findWord_105 rfl rfl ?_
      refine r_aload_n dX6_findWord_106 rfl rfl ?_
      refine r_getI (N := 35) dX6_findWord_107 fwX6_114 (by first | rfl | assumption) (Nat.le_of_ble_eq_true rfl) rfl ?_
      refine gV2 (Y := mX6_valueOf) (ci := 6) (N := 35) dX6_findWord_110 mlX6_92 vkX6_valueOf (by first | rfl | assumption) ⟨by decide, rfl⟩ rfl vo ?_
      refine r_iastore dX6_findWord_113 (by first | rfl | assumption) (by exact vp_in_nI (by omega) (by decide)) ?_
      rw [hclk]
      refine r_iload dX6_findWord_114 rfl ?_
      refine r_if_ne 135 dX6_findWord_116 (by decide) (fun c_116 => absurd rfl c_116) (fun c_116 => ?_)
      refine r_aload_n dX6_findWord_119 rfl rfl ?_
      refine r_aload_n dX6_findWord_120 rfl rfl ?_
      refine r_getI (N := 35) dX6_findWord_121 fwX6_114 (by first | rfl | assumption) (Nat.le_of_ble_eq_true rfl) rfl ?_
      rw [he2]
      refine r_if_ne 131 dX6_findWord_124 (by decide) (fun c_124 => ?_) (fun c_124 => ?_)
      · refine r_iconst 0 dX6_findWord_131 (by decide) ?_
        refine r_putI (N := 35) dX6_findWord_132 fwX6_114 (by first | rfl | assumption) (Nat.le_of_ble_eq_true rfl) rfl (Or.inl rfl) (by decide) (by decide) ?_
        first | (have h5 : eR (xW (M 48)) k = true := (by cases hz : eR (xW (M 48)) k with | true => rfl | false => exact absurd (by rw [hz]; rfl) c_124); rw [h5] at ht2 ⊢; exact r_weak (by simp [lvle] <;> (repeat' apply And.intro) <;> first | rfl | decide) ht2) | (have h5 : eR (xW (M 48)) k = false := (by cases hz : eR (xW (M 48)) k with | false => rfl | true => rw [hz] at c_124; exact absurd c_124 (by decide)); rw [h5] at ht2 ⊢; exact r_weak (by simp [lvle] <;> (repeat' apply And.intro) <;> first | rfl | decide) ht2)
      · refine r_iconst 1 dX6_findWord_127 (by decide) ?_
        refine r_goto 132 dX6_findWord_128 (by decide) ?_
        refine r_putI (N := 35) dX6_findWord_132 fwX6_114 (by first | rfl | assumption) (Nat.le_of_ble_eq_true rfl) rfl (Or.inl rfl) (by decide) (by decide) ?_
        first | (have h5 : eR (xW (M 48)) k = true := (by cases hz : eR (xW (M 48)) k with | true => rfl | false => exact absurd (by rw [hz]; rfl) c_124); rw [h5] at ht2 ⊢; exact r_weak (by simp [lvle] <;> (repeat' apply And.intro) <;> first | rfl | decide) ht2) | (have h5 : eR (xW (M 48)) k = false := (by cases hz : eR (xW (M 48)) k with | false => rfl | true => rw [hz] at c_124; exact absurd c_124 (by decide)); rw [h5] at ht2 ⊢; exact r_weak (by simp [lvle] <;> (repeat' apply And.intro) <;> first | rfl | decide) ht2)
    · refine r_aload_n dX6_findWord_67 rfl rfl ?_
      refine r_iload_n dX6_findWord_68 rfl rfl ?_
      refine r_iconst 1 dX6_findWord_69 (by decide) ?_
      refine gV2 (Y := mX6_unevenOf) (ci := 6) (N := 35) dX6_findWord_70 mlX6_89 vkX6_unevenOf (by first | rfl | assumption) ⟨by decide, rfl⟩ rfl u1 ?_
      refine r_iconst (-1) dX6_findWord_73 (by decide) ?_
      refine r_icmp_ne 79 dX6_findWord_74 (by decide) (fun c_74 => ?_) (fun c_74 => absurd ⟨c_64, c_74⟩ hue)
      refine r_iload dX6_findWord_79 rfl ?_
      refine r_if_ne 99 dX6_findWord_81 (by decide) (fun c_81 => absurd rfl c_81) (fun c_81 => ?_)
      refine r_aload_n dX6_findWord_84 rfl rfl ?_
      refine r_iload_n dX6_findWord_85 rfl rfl ?_
      refine r_aload_n dX6_findWord_86 rfl rfl ?_
      refine r_getI (N := 35) dX6_findWord_87 fwX6_114 (by first | rfl | assumption) (Nat.le_of_ble_eq_true rfl) rfl ?_
      refine gV2 (Y := mX6_unevenOf) (ci := 6) (N := 35) dX6_findWord_90 mlX6_89 vkX6_unevenOf (by first | rfl | assumption) ⟨by decide, rfl⟩ rfl ue ?_
      refine r_iconst (-1) dX6_findWord_93 (by decide) ?_
      refine r_icmp_ne 99 dX6_findWord_94 (by decide) (fun c_94 => ?_) (fun c_94 => absurd c_94 (nI_ne_m1 (by omega)))
      refine r_aload_n dX6_findWord_99 rfl rfl ?_
      refine r_getR (N := 35) dX6_findWord_100 fwX6_37 (by first | rfl | assumption) (Nat.le_of_ble_eq_true rfl) rfl (by first | rfl | assumption) ?_
      refine r_iload_n dX6_findWord_103 rfl rfl ?_
      refine r_aload_n dX6_findWord_104 rfl rfl ?_
      refine r_iload_n dX6_findWord_105 rfl rfl ?_
      refine r_aload_n dX6_findWord_106 rfl rfl ?_
      refine r_getI (N := 35) dX6_findWord_107 fwX6_114 (by first | rfl | assumption) (Nat.le_of_ble_eq_true rfl) rfl ?_
      refine gV2 (Y := mX6_valueOf) (ci := 6) (N := 35) dX6_findWord_110 mlX6_92 vkX6_valueOf (by first | rfl | assumption) ⟨by decide, rfl⟩ rfl vo ?_
      refine r_iastore dX6_findWord_113 (by first | rfl | assumption) (by exact vp_in_nI (by omega) (by decide)) ?_
      rw [hclk]
      refine r_iload dX6_findWord_114 rfl ?_
      refine r_if_ne 135 dX6_findWord_116 (by decide) (fun c_116 => absurd rfl c_116) (fun c_116 => ?_)
      refine r_aload_n dX6_findWord_119 rfl rfl ?_
      refine r_aload_n dX6_findWord_120 rfl rfl ?_
      refine r_getI (N := 35) dX6_findWord_121 fwX6_114 (by first | rfl | assumption) (Nat.le_of_ble_eq_true rfl) rfl ?_
      rw [he2]
      refine r_if_ne 131 dX6_findWord_124 (by decide) (fun c_124 => ?_) (fun c_124 => ?_)
      · refine r_iconst 0 dX6_findWord_131 (by decide) ?_
        refine r_putI (N := 35) dX6_findWord_132 fwX6_114 (by first | rfl | assumption) (Nat.le_of_ble_eq_true rfl) rfl (Or.inl rfl) (by decide) (by decide) ?_
        first | (have h5 : eR (xW (M 48)) k = true := (by cases hz : eR (xW (M 48)) k with | true => rfl | false => exact absurd (by rw [hz]; rfl) c_124); rw [h5] at ht2 ⊢; exact r_weak (by simp [lvle] <;> (repeat' apply And.intro) <;> first | rfl | decide) ht2) | (have h5 : eR (xW (M 48)) k = false := (by cases hz : eR (xW (M 48)) k with | false => rfl | true => rw [hz] at c_124; exact absurd c_124 (by decide)); rw [h5] at ht2 ⊢; exact r_weak (by simp [lvle] <;> (repeat' apply And.intro) <;> first | rfl | decide) ht2)
      · refine r_iconst 1 dX6_findWord_127 (by decide) ?_
        refine r_goto 132 dX6_findWord_128 (by decide) ?_
        refine r_putI (N := 35) dX6_findWord_132 fwX6_114 (by first | rfl | assumption) (Nat.le_of_ble_eq_true rfl) rfl (Or.inl rfl) (by decide) (by decide) ?_
        first | (have h5 : eR (xW (M 48)) k = true := (by cases hz : eR (xW (M 48)) k with | true => rfl | false => exact absurd (by rw [hz]; rfl) c_124); rw [h5] at ht2 ⊢; exact r_weak (by simp [lvle] <;> (repeat' apply And.intro) <;> first | rfl | decide) ht2) | (have h5 : eR (xW (M 48)) k = false := (by cases hz : eR (xW (M 48)) k with | false => rfl | true => rw [hz] at c_124; exact absurd c_124 (by decide)); rw [h5] at ht2 ⊢; exact r_weak (by simp [lvle] <;> (repeat' apply And.intro) <;> first | rfl | decide) ht2)
  · have hn : cvf (xW (M 48) k) (eR (xW (M 48)) k) < 0 := by rw [h3]; decide
    obtain ⟨p1, p2⟩ := pw_n hx (w := k) (l := l) hn
    refine ⟨M, go _ ?_, FrS.rf, fun q => absurd q p2⟩
    rw [p1, h3]
    rw [h2] at ue
    have hue : ¬ (ufn (xW (M 48) k) false = -1 ∧ ufn (xW (M 48) k) true = -1) := by
      rintro ⟨z1, z2⟩
      refine nI_ne_m1 (i := q) (by omega) (h2' ▸ ?_)
      cases eR (xW (M 48)) k
      · exact z2
      · exact z1
    refine r_aload_n dX6_findWord_35 rfl rfl ?_
    refine r_getR (N := 35) dX6_findWord_36 fwX6_13 (by first | rfl | assumption) (Nat.le_of_ble_eq_true rfl) rfl (by first | rfl | assumption) ?_
    refine r_iload_n dX6_findWord_39 rfl rfl ?_
    refine r_iaload dX6_findWord_40 (by first | rfl | assumption) (by exact vp_in_nI hx (by decide)) ?_
    refine r_iconst (-1) dX6_findWord_41 (by decide) ?_
    rw [hcl, ht, h1]
    refine r_icmp_eq 49 dX6_findWord_42 (by decide) (fun c_42 => ?_) (fun c_42 => absurd rfl c_42)
    refine r_iconst 0 dX6_findWord_49 (by decide) ?_
    refine r_istore_4 dX6_findWord_50 rfl (Nat.le_of_ble_eq_true rfl) ?_
    refine r_iload dX6_findWord_52 rfl ?_
    refine r_if_ne 79 dX6_findWord_54 (by decide) (fun c_54 => absurd rfl c_54) (fun c_54 => ?_)
    refine r_aload_n dX6_findWord_57 rfl rfl ?_
    refine r_iload_n dX6_findWord_58 rfl rfl ?_
    refine r_iconst 0 dX6_findWord_59 (by decide) ?_
    refine gV2 (Y := mX6_unevenOf) (ci := 6) (N := 35) dX6_findWord_60 mlX6_89 vkX6_unevenOf (by first | rfl | assumption) ⟨by decide, rfl⟩ rfl u0 ?_
    refine r_iconst (-1) dX6_findWord_63 (by decide) ?_
    refine r_icmp_ne 79 dX6_findWord_64 (by decide) (fun c_64 => ?_) (fun c_64 => ?_)
    · refine r_iload dX6_findWord_79 rfl ?_
      refine r_if_ne 99 dX6_findWord_81 (by decide) (fun c_81 => absurd rfl c_81) (fun c_81 => ?_)
      refine r_aload_n dX6_findWord_84 rfl rfl ?_
      refine r_iload_n dX6_findWord_85 rfl rfl ?_
      refine r_aload_n dX6_findWord_86 rfl rfl ?_
      refine r_getI (N := 35) dX6_findWord_87 fwX6_114 (by first | rfl | assumption) (Nat.le_of_ble_eq_true rfl) rfl ?_
      refine gV2 (Y := mX6_unevenOf) (ci := 6) (N := 35) dX6_findWord_90 mlX6_89 vkX6_unevenOf (by first | rfl | assumption) ⟨by decide, rfl⟩ rfl ue ?_
      refine r_iconst (-1) dX6_findWord_93 (by decide) ?_
      refine r_icmp_ne 99 dX6_findWord_94 (by decide) (fun c_94 => absurd rfl c_94) (fun c_94 => ?_)
      refine r_iconst 2 dX6_findWord_97 (by decide) ?_
      refine r_ireturn dX6_findWord_98 rfl (Nat.zero_le _) (Nat.zero_le _) ?_
      exact ⟨rfl, rfl⟩
    · refine r_aload_n dX6_findWord_67 rfl rfl ?_
      refine r_iload_n dX6_findWord_68 rfl rfl ?_
      refine r_iconst 1 dX6_findWord_69 (by decide) ?_
      refine gV2 (Y := mX6_unevenOf) (ci := 6) (N := 35) dX6_findWord_70 mlX6_89 vkX6_unevenOf (by first | rfl | assumption) ⟨by decide, rfl⟩ rfl u1 ?_
      refine r_iconst (-1) dX6_findWord_73 (by decide) ?_
      refine r_icmp_ne 79 dX6_findWord_74 (by decide) (fun c_74 => ?_) (fun c_74 => absurd ⟨c_64, c_74⟩ hue)
      refine r_iload dX6_findWord_79 rfl ?_
      refine r_if_ne 99 dX6_findWord_81 (by decide) (fun c_81 => absurd rfl c_81) (fun c_81 => ?_)
      refine r_aload_n dX6_findWord_84 rfl rfl ?_
      refine r_iload_n dX6_findWord_85 rfl rfl ?_
      refine r_aload_n dX6_findWord_86 rfl rfl ?_
      refine r_getI (N := 35) dX6_findWord_87 fwX6_114 (by first | rfl | assumption) (Nat.le_of_ble_eq_true rfl) rfl ?_
      refine gV2 (Y := mX6_unevenOf) (ci := 6) (N := 35) dX6_findWord_90 mlX6_89 vkX6_unevenOf (by first | rfl | assumption) ⟨by decide, rfl⟩ rfl ue ?_
      refine r_iconst (-1) dX6_findWord_93 (by decide) ?_
      refine r_icmp_ne 99 dX6_findWord_94 (by decide) (fun c_94 => absurd rfl c_94) (fun c_94 => ?_)
      refine r_iconst 2 dX6_findWord_97 (by decide) ?_
      refine r_ireturn dX6_findWord_98 rfl (Nat.zero_le _) (Nat.zero_le _) ?_
      exact ⟨rfl, rfl⟩
end
section
theorem rb_ok {X : Nat → Nat} {j l : Nat} (hx : X (j + 1) < 1024) (hj : j + 1 < l) (hl : l ≤ 17) (h : pw (X (j + 1)) (eR X (j + 1)) (j + 1) l = 0) : okB (rb X j) := by
  have hn : ¬ cvf (X (j + 1)) (eR X (j + 1)) < 0 := fun q => (pw_n hx (w := j + 1) (l := l) q).2 h
  obtain ⟨k, hk, he⟩ := cvf_nn hx hn
  have hm : misp (cvf (X (j + 1)) (eR X (j + 1))) (j + 1) l = false := by
    cases hq : misp (cvf (X (j + 1)) (eR X (j + 1))) (j + 1) l with
    | false => rfl
    | true => rw [pw_3 hn hq] at h; exact absurd h (by decide)
  refine okB_xor ?_ (sc_tab j (by omega)).2
  unfold misp at hm
  rw [if_neg (by omega), if_neg (by omega), decide_eq_false_iff_not] at hm
  rw [he] at hm ⊢
  exact okB_v hm hk
set_option maxHeartbeats 4000000 in
set_option maxRecDepth 100000 in
theorem m_rc_cmp {M : Mem} {l : Nat} {z c : Int32} (hl : 6 ≤ l) (hl2 : l ≤ 17) (g : Nat → Int32) (hg : ∀ q, q < 4 → M 50 (l - 4 + q) = g q) (hz0 : (∀ q, q < 4 → g q = nby c q) → z = 0) (hz4 : ∀ q, q < 4 → ¬ g q = nby c q → z = 4) : ∀ (d k : Nat), k + d = 4 → (∀ q, q < k → g q = nby c q) → WP mX6_receive 92 [some (.ref 40), some (.int (nI (l + 1))), some (.int c), some (.int (nI k))] [] 0 0 (shp, rfs, M) (fun r1 h1 => r1 = some (.int z) ∧ h1 = (shp, rfs, M)) := by
  have h5 : nI (l + 1) - 5 = nI (l - 4) := by
    rw [show (nI (l + 1) - 5 : Int32) = nI (l + 1 - 5) from pk_sub (a := l + 1) (b := 5) (by omega)]
    congr 1
  intro d
  induction d with
  | zero =>
    intro k hk h
    have hk : k = 4 := by omega
    subst hk
    rw [hz0 h]
    refine r_iload_n dX6_receive_92 rfl rfl ?_
    refine r_iconst 4 dX6_receive_93 (by decide) ?_
    refine r_icmp_ge 131 dX6_receive_94 (by decide) (fun c_94 => ?_) (fun c_94 => absurd (by decide) c_94)
    refine r_iconst 0 dX6_receive_131 (by decide) ?_
    refine r_ireturn dX6_receive_132 rfl (Nat.zero_le _) (Nat.zero_le _) ?_
    exact ⟨rfl, rfl⟩
  | succ d ih =>
    intro k hk h
    have hcl : (nI (l - 4 + k)).toNatClampNeg = l - 4 + k := nI_clamp (by omega)
    have hsh : 24 - 8 * nI k = nI (24 - 8 * k) := by
      rw [show (8 : Int32) * nI k = nI (8 * k) from pk_mul 8 k]
      exact pk_sub (a := 24) (b := 8 * k) (by omega)
    have hcmp : us c (nI (24 - 8 * k)) &&& 255 = nby c k := rfl
    refine r_iload_n dX6_receive_92 rfl rfl ?_
    refine r_iconst 4 dX6_receive_93 (by decide) ?_
    refine r_icmp_ge 131 dX6_receive_94 (by decide) (fun c_94 => absurd c_94 (nI_ge (a := k) (b := 4) (by omega) (by decide))) (fun c_94 => ?_)
    refine r_aload_n dX6_receive_97 rfl rfl ?_
    refine r_getR (N := 35) dX6_receive_98 fwX6_37 (by first | rfl | assumption) (Nat.le_of_ble_eq_true rfl) rfl (by first | rfl | assumption) ?_
    refine r_iload_n dX6_receive_101 rfl rfl ?_
    refine r_iconst 5 dX6_receive_102 (by decide) ?_
    refine r_isub dX6_receive_103 ?_
    refine r_iload_n dX6_receive_104 rfl rfl ?_
    rw [h5]
    refine r_iadd dX6_receive_105 ?_
    rw [nI_add]
    refine r_iaload dX6_receive_106 (by first | rfl | assumption) (by exact vp_in_nI (by omega) (by decide)) ?_
    rw [hcl, hg k (by omega)]
    refine r_iload_n dX6_receive_107 rfl rfl ?_
    refine r_bipush 24 dX6_receive_108 (by decide) ?_
    refine r_bipush 8 dX6_receive_110 (by decide) ?_
    refine r_iload_n dX6_receive_112 rfl rfl ?_
    refine r_imul dX6_receive_113 ?_
    refine r_isub dX6_receive_114 ?_
    rw [hsh]
    refine r_iushr dX6_receive_115 ?_
    refine r_sipush 255 dX6_receive_116 (by decide) ?_
    refine r_iand dX6_receive_119 ?_
    refine r_icmp_eq 125 dX6_receive_120 (by decide) (fun c_120 => ?_) (fun c_120 => ?_)
    · refine r_iinc_3 (_ + 1) dX6_receive_125 rfl (Nat.le_of_ble_eq_true rfl) rfl ?_
      refine r_goto 92 dX6_receive_128 (by decide) ?_
      rw [nI_1]
      exact ih (k + 1) (by omega) (fun q hq => (Nat.lt_or_ge q k).elim (h q) (fun z => by rw [show q = k by omega]; exact c_120))
    · refine r_iconst 4 dX6_receive_123 (by decide) ?_
      refine r_ireturn dX6_receive_124 rfl (Nat.zero_le _) (Nat.zero_le _) ?_
      rw [hz4 k (by omega) c_120]
      exact ⟨rfl, rfl⟩
set_option maxHeartbeats 4000000 in
set_option maxRecDepth 100000 in
theorem m_rc_ds {M0 : Mem} {l : Nat} {X : Nat → Nat} (hl : 6 ≤ l) (hl2 : l ≤ 17) (hg : ∀ j, j ≤ l → M0 50 j = cvf (X j) (eR X j)) : ∀ (d k : Nat) (M : Mem), k + 1 + d = l → (∀ j, j < k → M 50 (j + 1) = rb X j) → (∀ j, k < j → M 50 j = M0 50 j) → M 40 33 = rS k → FrS [50] [(40, 33)] M0 M → ∃ M', (∀ Q, WP mX6_receive 77 [some (.ref 40), some (.int (nI (l + 1))), none, none] [] 0 0 (shp, rfs, M') Q → WP mX6_receive 47 [some (.ref 40), some (.int (nI (l + 1))), some (.int (nI (k + 1))), none] [] 0 0 (shp, rfs, M) Q) ∧ (∀ j, j < l - 1 → M' 50 (j + 1) = rb X j) ∧ FrS [50] [(40, 33)] M0 M' := by
  intro d
  induction d with
  | zero =>
    intro k M hk h1 h2 hr F
    have hk : k + 1 = l := by omega
    refine ⟨M, fun Q hq => ?_, fun j hj => h1 j (by omega), F⟩
    subst hk
    refine r_iload_n dX6_receive_47 rfl rfl ?_
    refine r_iload_n dX6_receive_48 rfl rfl ?_
    refine r_iconst 1 dX6_receive_49 (by decide) ?_
    refine r_isub dX6_receive_50 ?_
    rw [nI_m1]
    refine r_icmp_ge 77 dX6_receive_51 (by decide) (fun c_51 => ?_) (fun c_51 => absurd (nI_le (Nat.le_refl _) (by omega)) c_51)
    exact r_weak (by simp [lvle] <;> (repeat' apply And.intro) <;> first | rfl | decide) hq
  | succ d ih =>
    intro k M hk h1 h2 hr F
    have hcl : (nI (k + 1)).toNatClampNeg = k + 1 := nI_clamp (by omega)
    have g1 := m_nextScramble (i := k) (by omega) hr
    have hv : M 50 (k + 1) ^^^ sc k = rb X k := by rw [h2 (k + 1) (by omega), hg (k + 1) (by omega)]; rfl
    have F1 : FrS [50] [(40, 33)] M0 (upd2 (upd2 M 40 33 (rS (k + 1))) 50 (k + 1) (rb X k)) := (F.ups (by decide)).upc (by decide)
    obtain ⟨M', w, H', F'⟩ := ih (k + 1) _ (by omega) (fun j hj => by
        by_cases hq : j = k
        · subst hq; rw [u_ss]
        · rw [u_sn (by omega), u_nn (by decide)]; exact h1 j (by omega)) (fun j hj => by rw [u_sn (by omega), u_nn (by decide)]; exact h2 j (by omega)) (by rw [u_nn (by decide), u_ss]) F1
    refine ⟨M', fun Q hq => ?_, H', F'⟩
    have w' := w Q hq
    refine r_iload_n dX6_receive_47 rfl rfl ?_
    refine r_iload_n dX6_receive_48 rfl rfl ?_
    refine r_iconst 1 dX6_receive_49 (by decide) ?_
    refine r_isub dX6_receive_50 ?_
    rw [nI_m1]
    refine r_icmp_ge 77 dX6_receive_51 (by decide) (fun c_51 => absurd c_51 (nI_ge (by omega) (by omega))) (fun c_51 => ?_)
    refine r_aload_n dX6_receive_54 rfl rfl ?_
    refine r_getR (N := 35) dX6_receive_55 fwX6_37 (by first | rfl | assumption) (Nat.le_of_ble_eq_true rfl) rfl (by first | rfl | assumption) ?_
    refine r_iload_n dX6_receive_58 rfl rfl ?_
    refine r_aload_n dX6_receive_59 rfl rfl ?_
    refine r_getR (N := 35) dX6_receive_60 fwX6_37 (by first | rfl | assumption) (Nat.le_of_ble_eq_true rfl) rfl (by first | rfl | assumption) ?_
    refine r_iload_n dX6_receive_63 rfl rfl ?_
    refine r_iaload dX6_receive_64 (by first | rfl | assumption) (by exact vp_in_nI (by omega) (by decide)) ?_
    refine r_aload_n dX6_receive_65 rfl rfl ?_
    refine gV0 (Y := mX6_nextScramble) (ci := 6) (N := 35) dX6_receive_66 mlX6_128 vkX6_nextScramble (by first | rfl | assumption) ⟨by decide, rfl⟩ rfl g1 ?_
    refine r_ixor dX6_receive_69 ?_
    rw [hcl, hv]
    refine r_iastore dX6_receive_70 (by first | rfl | assumption) (by exact vp_in_nI (by omega) (by decide)) ?_
    rw [hcl]
    refine r_iinc_2 (_ + 1) dX6_receive_71 rfl (Nat.le_of_ble_eq_true rfl) rfl ?_
    refine r_goto 47 dX6_receive_74 (by decide) ?_
    rw [nI_1]
    exact w'
set_option maxHeartbeats 4000000 in
set_option maxRecDepth 100000 in
theorem m_rc_lp {M0 : Mem} {l : Nat} (T : TabM M0) (hl : 6 ≤ l) (hl2 : l ≤ 17) (h01 : is01 (M0 48) (10 * (l + 1))) : ∀ (d k : Nat) (M : Mem), k + d = l + 1 → (∀ j, j < k → M 50 j = cvf (xW (M0 48) j) (eR (xW (M0 48)) j) ∧ pw (xW (M0 48) j) (eR (xW (M0 48)) j) j l = 0) → M 40 34 = eI (eR (xW (M0 48)) k) → FrS [50] [(40, 34)] M0 M → ∃ M', WP mX6_receive 15 [some (.ref 40), some (.int (nI (l + 1))), some (.int (nI k)), none] [] 0 0 (shp, rfs, M) (fun r1 h1 => r1 = some (.int (rcL (xW (M0 48)) l (rcZ (xW (M0 48)) l) d k)) ∧ h1 = (shp, rfs, M')) ∧ FrS [50] [(40, 34), (40, 33)] M0 M' := by
  intro d
  induction d with
  | zero =>
    intro k M hk h he F
    have hk : k = l + 1 := by omega
    subst hk
    have F0 : FrS [50] [(40, 34), (40, 33)] M0 M := F.mono (by decide) (by decide)
    obtain ⟨M', w, H', F'⟩ := m_rc_ds (M0 := upd2 M 40 33 65535) (l := l) (X := xW (M0 48)) hl hl2 (fun j hj => by rw [u_nn (by decide)]; exact (h j (by omega)).1) (l - 1) 0 (upd2 M 40 33 65535) (by omega) (fun j hj => absurd hj (by omega)) (fun j _ => rfl) u_ss FrS.rf
    refine ⟨M', ?_, (F0.ups (by decide)).tr (F'.mono (by decide) (by decide))⟩
    have hok : ∀ j, j < l - 1 → okB (rb (xW (M0 48)) j) := fun j hj => rb_ok (xW_lt h01 (by omega)) (by omega) hl2 (h (j + 1) (by omega)).2
    have hck := m_checkOf (M := M') (r := 50) (fr := 1) (n := l - 5) (N := 18) rfl (by omega) (by decide)
    rw [crcN_congr (f := fun q => M' 50 (1 + q)) (g := rb (xW (M0 48))) (l - 5) (fun j hj => by rw [Nat.add_comm]; exact H' j (by omega))] at hck
    have h6 : nI (l + 1) - 6 = nI (l - 5) := by
      rw [show (nI (l + 1) - 6 : Int32) = nI (l + 1 - 6) from pk_sub (a := l + 1) (b := 6) (by omega)]
      congr 1
    have hn4 := num4_eq (x := crcN (rb (xW (M0 48))) (l - 5)) (hok (l - 5) (by omega)) (hok (l - 5 + 1) (by omega)) (hok (l - 5 + 1 + 1) (by omega)) (hok (l - 5 + 1 + 1 + 1) (by omega))
    have hcm := m_rc_cmp (M := M') (l := l) (z := rcZ (xW (M0 48)) l) (c := crcN (rb (xW (M0 48))) (l - 5)) hl hl2 (fun q => rb (xW (M0 48)) (l - 5 + q)) (fun q hq => by rw [show l - 4 + q = l - 5 + q + 1 by omega]; exact H' _ (by omega)) (fun h => if_pos (hn4.mpr ⟨h 0 (by omega), h 1 (by omega), h 2 (by omega), h 3 (by omega)⟩)) (fun q hq hne => if_neg (fun z => by
        obtain ⟨z0, z1, z2, z3⟩ := hn4.mp z
        have hq4 : q = 0 ∨ q = 1 ∨ q = 2 ∨ q = 3 := by omega
        rcases hq4 with rfl | rfl | rfl | rfl
        · exact hne z0
        · exact hne z1
        · exact hne z2
        · exact hne z3)) 4 0 rfl (fun q hq => absurd hq (by omega))
    refine r_iload_n dX6_receive_15 rfl rfl ?_
    refine r_iload_n dX6_receive_16 rfl rfl ?_
    refine r_icmp_ge 39 dX6_receive_17 (by decide) (fun c_17 => ?_) (fun c_17 => absurd (nI_le (Nat.le_refl _) (by omega)) c_17)
    refine r_aload_n dX6_receive_39 rfl rfl ?_
    refine r_ldc 65535 dX6_receive_40 cnX6_112 ?_
    refine r_putI (N := 35) dX6_receive_42 fwX6_109 (by first | rfl | assumption) (Nat.le_of_ble_eq_true rfl) rfl (Or.inl rfl) rfl rfl ?_
    refine r_iconst 1 dX6_receive_45 (by decide) ?_
    refine r_istore_n2 dX6_receive_46 rfl (Nat.le_of_ble_eq_true rfl) ?_
    refine r_weak (by simp [lvle] <;> (repeat' apply And.intro) <;> first | rfl | decide) (w _ ?_)
    refine r_aload_n dX6_receive_77 rfl rfl ?_
    refine r_getR (N := 35) dX6_receive_78 fwX6_37 (by first | rfl | assumption) (Nat.le_of_ble_eq_true rfl) rfl (by first | rfl | assumption) ?_
    refine r_iconst 1 dX6_receive_81 (by decide) ?_
    refine r_iload_n dX6_receive_82 rfl rfl ?_
    refine r_bipush 6 dX6_receive_83 (by decide) ?_
    refine r_isub dX6_receive_85 ?_
    rw [h6]
    refine gS3 (Y := mX6_checkOf) dX6_receive_86 mlX6_105 ckX6_checkOf skX6_checkOf rfl hck ?_
    refine r_istore_n2 dX6_receive_89 rfl (Nat.le_of_ble_eq_true rfl) ?_
    refine r_iconst 0 dX6_receive_90 (by decide) ?_
    refine r_istore_n3 dX6_receive_91 rfl (Nat.le_of_ble_eq_true rfl) ?_
    exact hcm
  | succ d ih =>
    intro k M hk h he F
    have r48 : M 48 = M0 48 := F.row (by decide) (by simp)
    obtain ⟨M1, g1, F1, h1⟩ := m_findWord (M := M) (k := k) (l := l) (T.frS F (by decide) (by decide)) (by omega) hl2 (by rw [r48]; exact h01) (by rw [r48]; exact he)
    rw [r48] at g1 h1
    have F01 := F.tr F1
    simp only [rcL]
    by_cases hp : pw (xW (M0 48) k) (eR (xW (M0 48)) k) k l = 0
    · rw [if_pos hp]
      obtain ⟨i1, i2, i3⟩ := h1 hp
      obtain ⟨M', w, F'⟩ := ih (k + 1) M1 (by omega) (fun j hj => by
        by_cases hq : j = k
        · subst hq; exact ⟨i1, hp⟩
        · rw [i3 j hq]; exact h j (by omega)) i2 F01
      refine ⟨M', ?_, F'⟩
      rw [hp] at g1
      refine r_iload_n dX6_receive_15 rfl rfl ?_
      refine r_iload_n dX6_receive_16 rfl rfl ?_
      refine r_icmp_ge 39 dX6_receive_17 (by decide) (fun c_17 => absurd c_17 (nI_ge (by omega) (by omega))) (fun c_17 => ?_)
      refine r_aload_n dX6_receive_20 rfl rfl ?_
      refine r_iload_n dX6_receive_21 rfl rfl ?_
      refine r_iload_n dX6_receive_22 rfl rfl ?_
      refine gV2 (Y := mX6_findWord) (ci := 6) (N := 35) dX6_receive_23 mlX6_138 vkX6_findWord (by first | rfl | assumption) ⟨by decide, rfl⟩ rfl g1 ?_
      refine r_istore_n3 dX6_receive_26 rfl (Nat.le_of_ble_eq_true rfl) ?_
      refine r_iload_n dX6_receive_27 rfl rfl ?_
      refine r_if_eq 33 dX6_receive_28 (by decide) (fun c_28 => ?_) (fun c_28 => absurd rfl c_28)
      refine r_iinc_2 (_ + 1) dX6_receive_33 rfl (Nat.le_of_ble_eq_true rfl) rfl ?_
      refine r_goto 15 dX6_receive_36 (by decide) ?_
      rw [nI_1]
      exact r_weak (by simp [lvle] <;> (repeat' apply And.intro) <;> first | rfl | decide) w
    · rw [if_neg hp]
      refine ⟨M1, ?_, F01.mono (by decide) (by decide)⟩
      refine r_iload_n dX6_receive_15 rfl rfl ?_
      refine r_iload_n dX6_receive_16 rfl rfl ?_
      refine r_icmp_ge 39 dX6_receive_17 (by decide) (fun c_17 => absurd c_17 (nI_ge (by omega) (by omega))) (fun c_17 => ?_)
      refine r_aload_n dX6_receive_20 rfl rfl ?_
      refine r_iload_n dX6_receive_21 rfl rfl ?_
      refine r_iload_n dX6_receive_22 rfl rfl ?_
      refine gV2 (Y := mX6_findWord) (ci := 6) (N := 35) dX6_receive_23 mlX6_138 vkX6_findWord (by first | rfl | assumption) ⟨by decide, rfl⟩ rfl g1 ?_
      refine r_istore_n3 dX6_receive_26 rfl (Nat.le_of_ble_eq_true rfl) ?_
      refine r_iload_n dX6_receive_27 rfl rfl ?_
      refine r_if_eq 33 dX6_receive_28 (by decide) (fun c_28 => absurd c_28 hp) (fun c_28 => ?_)
      refine r_iload_n dX6_receive_31 rfl rfl ?_
      refine r_ireturn dX6_receive_32 rfl (Nat.zero_le _) (Nat.zero_le _) ?_
      exact ⟨rfl, rfl⟩
set_option maxHeartbeats 4000000 in
set_option maxRecDepth 100000 in
theorem m_receive {M : Mem} {l : Nat} (T : TabM M) (hl : 6 ≤ l) (hl2 : l ≤ 17) (hb : M 40 12 = nI (10 * (l + 1))) (h01 : is01 (M 48) (10 * (l + 1))) : ∃ M', Gv mX6_receive [.ref 40] M (some (.int (rcv (xW (M 48)) l))) M' ∧ FrS [50] [(40, 34), (40, 33)] M M' := by
  have F0 : FrS [50] [(40, 34), (40, 33)] M (upd2 M 40 34 0) := FrS.rf.ups (by decide)
  have r48 : upd2 M 40 34 0 48 = M 48 := upd2_n (by decide)
  obtain ⟨M', w, F'⟩ := m_rc_lp (M0 := upd2 M 40 34 0) (l := l) (T.frS F0 (by decide) (by decide)) hl hl2 (by rw [r48]; exact h01) (l + 1) 0 (upd2 M 40 34 0) (by omega) (fun j q => absurd q (by omega)) u_ss FrS.rf
  rw [r48] at w
  refine ⟨M', ?_, F0.tr F'⟩
  have hd : nI (10 * (l + 1)) / 10 = nI (l + 1) := by
    rw [show (nI (10 * (l + 1)) / 10 : Int32) = nI (10 * (l + 1) / 10) from pk_div (a := 10 * (l + 1)) (d := 10) (by omega) (by decide) (by decide)]
    congr 1
    omega
  refine con_of (lv := [some (.ref 40), none, none, none]) (by decide) rfl (Nat.le_of_ble_eq_true rfl) (by simp [lvle]) ?_
  refine r_aload_n dX6_receive_0 rfl rfl ?_
  refine r_getI (N := 35) dX6_receive_1 fwX6_118 (by first | rfl | assumption) (Nat.le_of_ble_eq_true rfl) rfl ?_
  refine r_bipush 10 dX6_receive_4 (by decide) ?_
  refine r_idiv dX6_receive_6 (by decide) ?_
  rw [hb, hd]
  refine r_istore_n1 dX6_receive_7 rfl (Nat.le_of_ble_eq_true rfl) ?_
  refine r_aload_n dX6_receive_8 rfl rfl ?_
  refine r_iconst 0 dX6_receive_9 (by decide) ?_
  refine r_putI (N := 35) dX6_receive_10 fwX6_114 (by first | rfl | assumption) (Nat.le_of_ble_eq_true rfl) rfl (Or.inl rfl) (by decide) (by decide) ?_
  refine r_iconst 0 dX6_receive_13 (by decide) ?_
  refine r_istore_n2 dX6_receive_14 rfl (Nat.le_of_ble_eq_true rfl) ?_
  exact w
end
section
/-- the link: FRAMES SENT, findings, with a FINDING, FAILED, bits, the wire -/
abbrev LSt : Type := Nat × (Nat → Int32) × Int32 × Int32 × Nat × (Nat → Int32)
/-- the plan: how many, frames, bits -/
abbrev PL : Type := Nat × (Nat → Int32) × (Nat → Int32)
def VC (M : Mem) (v : LSt) : Prop := M 4 10 = nI v.1 ∧ (∀ j, j < 16 → M 13 j = v.2.1 j) ∧ M 4 11 = v.2.2.1 ∧ M 4 12 = v.2.2.2.1 ∧ M 4 5 = nI v.2.2.2.2.1 ∧ ∀ j, j < v.2.2.2.2.1 → M 10 j = v.2.2.2.2.2 j
def VM (M : Mem) (v : LSt) : Prop := M 40 8 = nI v.1 ∧ (∀ j, j < 16 → M 47 j = v.2.1 j) ∧ M 40 9 = v.2.2.1 ∧ M 40 10 = v.2.2.2.1 ∧ M 40 12 = nI v.2.2.2.2.1 ∧ ∀ j, j < v.2.2.2.2.1 → M 48 j = v.2.2.2.2.2 j
def PC (M : Mem) (P : PL) : Prop := M 4 8 = nI P.1 ∧ ∀ j, j < P.1 → M 11 j = P.2.1 j ∧ M 12 j = P.2.2 j
def PM (M : Mem) (P : PL) : Prop := M 40 5 = nI P.1 ∧ ∀ j, j < P.1 → M 45 j = P.2.1 j ∧ M 46 j = P.2.2 j
def okP (P : PL) : Prop := P.1 ≤ 30 ∧ ∀ j, j < P.1 → ∃ b, b ≤ 1000000 ∧ P.2.2 j = nI b
def okF (p : Nat → Int32) (n : Nat) : Prop := 1 ≤ n ∧ n ≤ 12 ∧ ∀ j, j < n → okB (p j)
def rowF (P : PL) (p : Nat → Int32) (n fr : Nat) : Nat → Int32 := flt P.2.1 P.2.2 (nI fr) (10 * (n + 6)) P.1 (btF (Vf (bb p n) (n + 4)))
def fdF (P : PL) (p : Nat → Int32) (n fr : Nat) : Int32 := rcv (xW (rowF P p n fr)) (n + 5)
/-- a frame is SENT once -/
def one (P : PL) (p : Nat → Int32) (n : Nat) (v : LSt) : LSt := (v.1 + 1, upd v.2.1 (v.1 % 16) (fdF P p n v.1), if fdF P p n v.1 = 0 then v.2.2.1 else v.2.2.1 + 1, v.2.2.2.1, 10 * (n + 6), rowF P p n v.1)
theorem and1_01 (x : Int32) : x &&& 1 = 0 ∨ x &&& 1 = 1 := by
  obtain ⟨j, hj, he⟩ := pk_andE x (m := 1) 1 (by decide)
  rw [he]
  have : j = 0 ∨ j = 1 := by omega
  rcases this with rfl | rfl
  · exact Or.inl rfl
  · exact Or.inr rfl
theorem bt_01 (V : Nat → Nat) (n : Nat) : is01 (btF V) n := fun j _ => and1_01 _
theorem flt_01 {FF FB : Nat → Int32} {fr : Int32} {nb n : Nat} {f : Nat → Int32} (h : is01 f n) : ∀ k, is01 (flt FF FB fr nb k f) n
  | 0 => h
  | k + 1 => by
    have ih := flt_01 (FF := FF) (FB := FB) (fr := fr) (nb := nb) h k
    intro j hj
    simp only [flt]
    split
    · by_cases hq : j = fat FB nb k
      · rw [← hq, upd_s]
        rcases ih j hj with q | q <;> rw [q] <;> decide
      · rw [upd_n hq]
        exact ih j hj
    · exact ih j hj
theorem row_01 (P : PL) (p : Nat → Int32) (n fr m : Nat) : is01 (rowF P p n fr) m := flt_01 (bt_01 _ _) _
theorem is01_congr {f g : Nat → Int32} {n : Nat} (h : is01 f n) (hg : ∀ j, j < n → g j = f j) : is01 g n := fun j q => by rw [hg j q]; exact h j q
theorem xrcv_congr {f g : Nat → Int32} {l : Nat} (hl : 5 ≤ l) (h : ∀ j, j < 10 * (l + 1) → f j = g j) : rcv (xW f) l = rcv (xW g) l := rcv_congr hl (fun j hj => xW_congr h (by omega))
set_option maxHeartbeats 4000000 in
set_option maxRecDepth 100000 in
theorem x_place {M : Mem} {f : Nat} (hf : f < 2 ^ 31) : Gv mX4_placeOfFinding [.ref 4, .int (nI f)] M (some (.int (nI (f % 16)))) M := by
  have h := pk_andN (n := f) (by omega) (m := 15) 4 (by decide)
  refine con_of (lv := [some (.ref 4), some (.int (nI f))]) (by decide) rfl (Nat.le_of_ble_eq_true rfl) (by simp [lvle]) ?_
  refine r_iload_n dX4_placeOfFinding_0 rfl rfl ?_
  refine r_bipush 15 dX4_placeOfFinding_1 (by decide) ?_
  refine r_iand dX4_placeOfFinding_3 ?_
  refine r_ireturn dX4_placeOfFinding_4 rfl (Nat.zero_le _) (Nat.zero_le _) ?_
  rw [h]
  exact ⟨rfl, rfl⟩
set_option maxHeartbeats 4000000 in
set_option maxRecDepth 100000 in
theorem x_sendOnce {M : Mem} {o r n : Nat} {p : Nat → Int32} {v : LSt} {P : PL} (T : TabC M) (TS : TabS M) (hB : isBy o r) (ho1 : o ∉ [6, 7] ∧ r ∉ [6, 7]) (H : HB M o r n p) (hp : okF p n) (hv : VC M v) (hP : PC M P) (okp : okP P) (hfr : v.1 + 1 < 2 ^ 31) : ∃ M', Gv mX4_sendOnce [.ref 4, .ref o] M (some (.int (fdF P p n v.1))) M' ∧ VC M' (one P p n v) ∧ FrS [6, 7, 8, 9, 10, 13] [(4, 5), (4, 10), (4, 11)] M M' := by
  obtain ⟨hB1, hB2, hB3, hB4⟩ := id hB
  obtain ⟨n1, n12, pok⟩ := hp
  obtain ⟨M1, g1, H1, F1⟩ := b_copyX (M := M) (n := n) (g := p) isBy6 hB ho1.1 ho1.2 H pok
  have H1' := H.fr F1 ho1.1 ho1.2
  have gs := b_size (M := M1) hB
  rw [H1'.1] at gs
  have gc := b_checksum hB (M := M1) H1'.1 H1'.2.1 (Nat.le_refl n)
  rw [crcN_congr (f := M1 r) (g := p) n (fun j q => H1'.2.2 j q)] at gc
  obtain ⟨M2, g2, H2, F2⟩ := b_addNumberX (M := M1) (x := crcN p n) (g := bb p n) isBy6 (H1.gg (fun j q => (bb_lo q).symm)) (by omega) (fun q _ => bb_hi)
  have F12 : FrS [6, 7, 8, 9, 10, 13] [(4, 5), (4, 10), (4, 11)] M M2 := (F1.S.tr F2.S).mono (by decide) (by decide)
  obtain ⟨M3, g3, H3, F3⟩ := x_layOnWire (M := M2) (g := bb p n) (N := n + 4) (T.frS F12 (by decide) (by decide)) (TS.frS F12 (by decide) (by decide)) H2 (fun j _ => bb_ok pok j)
  have F13 : FrS [6, 7, 8, 9, 10, 13] [(4, 5), (4, 10), (4, 11)] M M3 := F12.tr (F3.mono (by decide) (by decide))
  have F3' : FrS [6, 7, 10] [(4, 5)] M M3 := ((F1.S.tr F2.S).mono (by decide) (by decide)).tr (F3.mono (by decide) (by decide))
  have e48 : M3 4 8 = nI P.1 := by rw [F3' 4 8 (by decide) (by decide)]; exact hP.1
  have e410 : M3 4 10 = nI v.1 := by rw [F3' 4 10 (by decide) (by decide)]; exact hv.1
  have e11 : M3 11 = M 11 := F3'.row (by decide) (by simp)
  have e12 : M3 12 = M 12 := F3'.row (by decide) (by simp)
  have g4 := x_turn (M := M3) (nb := 10 * (n + 6)) (nf := P.1) (by omega) (by omega) H3.1 e48 okp.1 (fun j q => by rw [e12, (hP.2 j q).2]; exact okp.2 j q)
  have hrow : ∀ j, j < 10 * (n + 6) → flt (M3 11) (M3 12) (M3 4 10) (10 * (n + 6)) P.1 (M3 10) j = rowF P p n v.1 j := by
    intro j hj
    rw [e410, e11, e12]
    exact flt_congr (by omega) (by omega) (fun j q => H3.2 j q) P.1 (fun j q => ⟨(hP.2 j q).1, (hP.2 j q).2, by rw [(hP.2 j q).2]; exact okp.2 j q⟩) j hj
  generalize hM4 : setRow M3 10 (flt (M3 11) (M3 12) (M3 4 10) (10 * (n + 6)) P.1 (M3 10)) = M4 at g4
  have F4 : FrS [10] [] M3 M4 := fun a k ha _ => by rw [← hM4, sr_n (fun q => ha (by rw [q]; exact List.mem_cons_self))]
  have r10 : ∀ j, j < 10 * (n + 6) → M4 10 j = rowF P p n v.1 j := fun j hj => by rw [← hM4, sr_s]; exact hrow j hj
  have F14 := F13.tr (F4.mono (cs' := [6, 7, 8, 9, 10, 13]) (ss' := [(4, 5), (4, 10), (4, 11)]) (by decide) (by decide))
  obtain ⟨M5, g5, F5⟩ := x_receive (M := M4) (l := n + 5) (T.frS F14 (by decide) (by decide)) (TS.frS F14 (by decide) (by decide)) (by omega) (by omega) (by rw [F4 4 5 (by decide) (by decide)]; exact H3.1) (is01_congr (row_01 P p n v.1 _) r10)
  rw [xrcv_congr (f := M4 10) (g := rowF P p n v.1) (l := n + 5) (by omega) r10] at g5
  change Gv mX4_receive [.ref 4] M4 (some (.int (fdF P p n v.1))) M5 at g5
  have F15 := F14.tr (F5.mono (cs' := [6, 7, 8, 9, 10, 13]) (ss' := [(4, 5), (4, 10), (4, 11)]) (by decide) (by decide))
  have e510 : M5 4 10 = nI v.1 := by rw [F5 4 10 (by decide) (by decide), F4 4 10 (by decide) (by decide)]; exact e410
  have e511 : M5 4 11 = v.2.2.1 := by rw [F5 4 11 (by decide) (by decide), F4 4 11 (by decide) (by decide), F3' 4 11 (by decide) (by decide)]; exact hv.2.2.1
  have e512 : M5 4 12 = v.2.2.2.1 := by rw [F15 4 12 (by decide) (by decide)]; exact hv.2.2.2.1
  have e55 : M5 4 5 = nI (10 * (n + 6)) := by rw [F5 4 5 (by decide) (by decide), F4 4 5 (by decide) (by decide)]; exact H3.1
  have e513 : ∀ j, M5 13 j = M 13 j := fun j => by rw [F5 13 j (by decide) (by simp), F4 13 j (by decide) (by simp), F3' 13 j (by decide) (by simp)]
  have e5b : ∀ j, j < 10 * (n + 6) → M5 10 j = rowF P p n v.1 j := fun j hj => by rw [F5 10 j (by decide) (by simp)]; exact r10 j hj
  have gp := x_place (M := M5) (f := v.1) (by omega)
  have hcl : (nI (v.1 % 16)).toNatClampNeg = v.1 % 16 := nI_clamp (by omega)
  have hlt : v.1 % 16 < 16 := Nat.mod_lt _ (by decide)
  refine ⟨upd2 (upd2 (upd2 M5 13 (v.1 % 16) (fdF P p n v.1)) 4 10 (nI (v.1 + 1))) 4 11 (if fdF P p n v.1 = 0 then v.2.2.1 else v.2.2.1 + 1), ?_, ⟨?_, ?_, ?_, ?_, ?_, ?_⟩, ((F15.upc (by decide)).ups (by decide)).ups (by decide)⟩
  · refine con_of (lv := [some (.ref 4), some (.ref o), none]) (by decide) rfl (Nat.le_of_ble_eq_true rfl) (by simp [lvle]) ?_
    refine r_aload_n dX4_sendOnce_0 rfl rfl ?_
    refine r_getR (N := 13) dX4_sendOnce_1 fwX4_18 (by first | rfl | assumption) (Nat.le_of_ble_eq_true rfl) rfl (by first | rfl | assumption) ?_
    refine r_aload_n dX4_sendOnce_4 rfl rfl ?_
    refine gW1 (Y := mX0_copy) (ci := 0) (N := 2) dX4_sendOnce_5 mlX4_64 vkX0_copy (by first | rfl | assumption) ⟨by decide, rfl⟩ rfl g1 ?_
    refine r_aload_n dX4_sendOnce_8 rfl rfl ?_
    refine r_getR (N := 13) dX4_sendOnce_9 fwX4_18 (by first | rfl | assumption) (Nat.le_of_ble_eq_true rfl) rfl (by first | rfl | assumption) ?_
    refine r_aload_n dX4_sendOnce_12 rfl rfl ?_
    refine r_aload_n dX4_sendOnce_13 rfl rfl ?_
    refine gV0 (Y := mX0_size) (ci := 0) (N := 2) dX4_sendOnce_14 mlX4_68 vkX0_size (by first | rfl | assumption) ⟨by decide, rfl⟩ rfl gs ?_
    refine gV1 (Y := mX0_checksum) (ci := 0) (N := 2) dX4_sendOnce_17 mlX4_72 vkX0_checksum (by first | rfl | assumption) ⟨by decide, rfl⟩ rfl gc ?_
    refine gW1 (Y := mX0_addNumber) (ci := 0) (N := 2) dX4_sendOnce_20 mlX4_75 vkX0_addNumber (by first | rfl | assumption) ⟨by decide, rfl⟩ rfl g2 ?_
    refine r_aload_n dX4_sendOnce_23 rfl rfl ?_
    refine gW0 (Y := mX4_layOnWire) (ci := 4) (N := 13) dX4_sendOnce_24 mlX4_79 vkX4_layOnWire (by first | rfl | assumption) ⟨by decide, rfl⟩ rfl g3 ?_
    refine r_aload_n dX4_sendOnce_27 rfl rfl ?_
    refine gW0 (Y := mX4_turnFaultyBits) (ci := 4) (N := 13) dX4_sendOnce_28 mlX4_82 vkX4_turnFaultyBits (by first | rfl | assumption) ⟨by decide, rfl⟩ rfl g4 ?_
    refine r_aload_n dX4_sendOnce_31 rfl rfl ?_
    refine gV0 (Y := mX4_receive) (ci := 4) (N := 13) dX4_sendOnce_32 mlX4_85 vkX4_receive (by first | rfl | assumption) ⟨by decide, rfl⟩ rfl g5 ?_
    refine r_istore_n2 dX4_sendOnce_35 rfl (Nat.le_of_ble_eq_true rfl) ?_
    refine r_aload_n dX4_sendOnce_36 rfl rfl ?_
    refine r_getR (N := 13) dX4_sendOnce_37 fwX4_34 (by first | rfl | assumption) (Nat.le_of_ble_eq_true rfl) rfl (by first | rfl | assumption) ?_
    refine r_aload_n dX4_sendOnce_40 rfl rfl ?_
    refine r_aload_n dX4_sendOnce_41 rfl rfl ?_
    refine r_getI (N := 13) dX4_sendOnce_42 fwX4_47 (by first | rfl | assumption) (Nat.le_of_ble_eq_true rfl) rfl ?_
    refine gV1 (Y := mX4_placeOfFinding) (ci := 4) (N := 13) dX4_sendOnce_45 mlX4_50 vkX4_placeOfFinding (by first | rfl | assumption) ⟨by decide, rfl⟩ rfl (by rw [e510]; exact gp) ?_
    refine r_iload_n dX4_sendOnce_48 rfl rfl ?_
    refine r_iastore dX4_sendOnce_49 (by first | rfl | assumption) (by exact vp_in_nI hlt (by decide)) ?_
    rw [hcl]
    refine r_aload_n dX4_sendOnce_50 rfl rfl ?_
    first | refine r_dupR dX4_sendOnce_51 ?_ | refine r_dupI dX4_sendOnce_51 ?_
    refine r_getI (N := 13) dX4_sendOnce_52 fwX4_47 (by first | rfl | assumption) (Nat.le_of_ble_eq_true rfl) rfl ?_
    refine r_iconst 1 dX4_sendOnce_55 (by decide) ?_
    refine r_iadd dX4_sendOnce_56 ?_
    refine r_putI (N := 13) dX4_sendOnce_57 fwX4_47 (by first | rfl | assumption) (Nat.le_of_ble_eq_true rfl) rfl (Or.inl rfl) rfl rfl ?_
    refine r_iload_n dX4_sendOnce_60 rfl rfl ?_
    refine r_if_eq 74 dX4_sendOnce_61 (by decide) (fun c_61 => ?_) (fun c_61 => ?_)
    · refine r_iload_n dX4_sendOnce_74 rfl rfl ?_
      refine r_ireturn dX4_sendOnce_75 rfl (Nat.zero_le _) (Nat.zero_le _) ?_
      refine ⟨rfl, ?_⟩
      simp only [u_sn (show (11 : Nat) ≠ 10 by decide), u_nn (show (4 : Nat) ≠ 13 by decide), e510, e511, nI_1]
      first | rw [if_pos c_61, ← e511] | rw [if_neg c_61]
      try (rw [show ∀ (q : Mem) (x : Int32), q 4 11 = x → upd2 q 4 11 x = q from fun q x hx => by rw [← hx, upd2_id]]; rw [u_sn (by decide), u_nn (by decide)])
    · refine r_aload_n dX4_sendOnce_64 rfl rfl ?_
      first | refine r_dupR dX4_sendOnce_65 ?_ | refine r_dupI dX4_sendOnce_65 ?_
      refine r_getI (N := 13) dX4_sendOnce_66 fwX4_88 (by first | rfl | assumption) (Nat.le_of_ble_eq_true rfl) rfl ?_
      refine r_iconst 1 dX4_sendOnce_69 (by decide) ?_
      refine r_iadd dX4_sendOnce_70 ?_
      refine r_putI (N := 13) dX4_sendOnce_71 fwX4_88 (by first | rfl | assumption) (Nat.le_of_ble_eq_true rfl) rfl (Or.inl rfl) rfl rfl ?_
      refine r_iload_n dX4_sendOnce_74 rfl rfl ?_
      refine r_ireturn dX4_sendOnce_75 rfl (Nat.zero_le _) (Nat.zero_le _) ?_
      refine ⟨rfl, ?_⟩
      simp only [u_sn (show (11 : Nat) ≠ 10 by decide), u_nn (show (4 : Nat) ≠ 13 by decide), e510, e511, nI_1]
      first | rw [if_pos c_61, ← e511] | rw [if_neg c_61]
      try (rw [show ∀ (q : Mem) (x : Int32), q 4 11 = x → upd2 q 4 11 x = q from fun q x hx => by rw [← hx, upd2_id]]; rw [u_sn (by decide), u_nn (by decide)])
  · simp only [one]
    rw [u_sn (by decide), u_ss]
  · intro j hj
    simp only [one]
    rw [u_nn (by decide), u_nn (by decide)]
    by_cases hq : j = v.1 % 16
    · rw [hq, u_ss, upd_s]
    · rw [u_sn hq, upd_n hq, e513]; exact hv.2.1 j hj
  · simp only [one]
    rw [u_ss]
  · simp only [one]
    rw [u_sn (by decide), u_sn (by decide), u_nn (by decide)]; exact e512
  · simp only [one]
    rw [u_sn (by decide), u_sn (by decide), u_nn (by decide)]; exact e55
  · intro j hj
    simp only [one] at hj ⊢
    rw [u_nn (by decide), u_nn (by decide), u_nn (by decide)]
    exact e5b j hj
end
section
def HP (M : Mem) (n : Nat) (p : Nat → Int32) : Prop := M 40 14 = nI n ∧ ∀ j, j < n → M 49 j = p j
theorem HP.frS {M M' : Mem} {n : Nat} {p : Nat → Int32} {cs : List Nat} {ss : List (Nat × Nat)} (h : HP M n p) (F : FrS cs ss M M') (h1 : 40 ∉ cs ∧ 49 ∉ cs) (h2 : (40, 14) ∉ ss) (h3 : ∀ q ∈ ss, q.1 ≠ 49) : HP M' n p := ⟨by rw [F 40 14 h1.1 h2]; exact h.1, fun j q => by rw [F 49 j h1.2 (fun z => h3 _ z rfl)]; exact h.2 j q⟩
set_option maxHeartbeats 4000000 in
set_option maxRecDepth 100000 in
theorem m_sendOnce {M : Mem} {n : Nat} {p : Nat → Int32} {v : LSt} {P : PL} (T : TabM M) (H : HP M n p) (hp : okF p n) (hv : VM M v) (hP : PM M P) (okp : okP P) (hfr : v.1 + 1 < 2 ^ 31) : ∃ M', Gv mX6_sendOnce [.ref 40] M (some (.int (fdF P p n v.1))) M' ∧ VM M' (one P p n v) ∧ FrS [47, 48, 50] [(40, 12), (40, 34), (40, 33), (40, 8), (40, 9)] M M' := by
  obtain ⟨n1, n12, pok⟩ := hp
  obtain ⟨M3, g3, H3, r3, F3⟩ := m_layWire (M := M) (n := n) (nf := P.1) (p := p) T n12 H.1 H.2 pok hP.1 okp.1 (fun j q => by rw [(hP.2 j q).2]; exact okp.2 j q)
  have hrow : ∀ j, j < 10 * (n + 6) → M3 48 j = rowF P p n v.1 j := by
    intro j hj
    rw [r3 j hj, hv.1]
    exact flt_congr (by omega) (by omega) (fun j q => rfl) P.1 (fun j q => ⟨(hP.2 j q).1, (hP.2 j q).2, by rw [(hP.2 j q).2]; exact okp.2 j q⟩) j hj
  obtain ⟨M5, g5, F5⟩ := m_receive (M := M3) (l := n + 5) (T.frS F3 (by decide) (by decide)) (by omega) (by omega) H3 (is01_congr (row_01 P p n v.1 _) hrow)
  rw [xrcv_congr (f := M3 48) (g := rowF P p n v.1) (l := n + 5) (by omega) hrow] at g5
  change Gv mX6_receive [.ref 40] M3 (some (.int (fdF P p n v.1))) M5 at g5
  have F15 : FrS [48, 50] [(40, 12), (40, 34), (40, 33)] M M5 := (F3.mono (by decide) (by decide)).tr (F5.mono (by decide) (by decide))
  have F16 : FrS [47, 48, 50] [(40, 12), (40, 34), (40, 33), (40, 8), (40, 9)] M M5 := F15.mono (by decide) (by decide)
  have e8 : M5 40 8 = nI v.1 := by rw [F15 40 8 (by decide) (by decide)]; exact hv.1
  have e9 : M5 40 9 = v.2.2.1 := by rw [F15 40 9 (by decide) (by decide)]; exact hv.2.2.1
  have e10 : M5 40 10 = v.2.2.2.1 := by rw [F15 40 10 (by decide) (by decide)]; exact hv.2.2.2.1
  have e12 : M5 40 12 = nI (10 * (n + 6)) := by rw [F5 40 12 (by decide) (by decide)]; exact H3
  have e47 : ∀ j, M5 47 j = M 47 j := fun j => F15 47 j (by decide) (by simp)
  have e48 : ∀ j, j < 10 * (n + 6) → M5 48 j = rowF P p n v.1 j := fun j hj => by rw [F5 48 j (by decide) (by simp)]; exact hrow j hj
  have hcl : (nI (v.1 % 16)).toNatClampNeg = v.1 % 16 := nI_clamp (by omega)
  have hlt : v.1 % 16 < 16 := Nat.mod_lt _ (by decide)
  have hrem : nI v.1 - nI v.1 / 16 * 16 = nI (v.1 % 16) := pk_rem (a := v.1) (d := 16) (by omega) (by decide) (by decide)
  refine ⟨upd2 (upd2 (upd2 M5 47 (v.1 % 16) (fdF P p n v.1)) 40 8 (nI (v.1 + 1))) 40 9 (if fdF P p n v.1 = 0 then v.2.2.1 else v.2.2.1 + 1), ?_, ⟨?_, ?_, ?_, ?_, ?_, ?_⟩, ((F16.upc (by decide)).ups (by decide)).ups (by decide)⟩
  · refine con_of (lv := [some (.ref 40), none]) (by decide) rfl (Nat.le_of_ble_eq_true rfl) (by simp [lvle]) ?_
    refine r_aload_n dX6_sendOnce_0 rfl rfl ?_
    refine gW0 (Y := mX6_layWire) (ci := 6) (N := 35) dX6_sendOnce_1 mlX6_141 vkX6_layWire (by first | rfl | assumption) ⟨by decide, rfl⟩ rfl g3 ?_
    refine r_aload_n dX6_sendOnce_4 rfl rfl ?_
    refine gV0 (Y := mX6_receive) (ci := 6) (N := 35) dX6_sendOnce_5 mlX6_144 vkX6_receive (by first | rfl | assumption) ⟨by decide, rfl⟩ rfl g5 ?_
    refine r_istore_n1 dX6_sendOnce_8 rfl (Nat.le_of_ble_eq_true rfl) ?_
    refine r_aload_n dX6_sendOnce_9 rfl rfl ?_
    refine r_getR (N := 35) dX6_sendOnce_10 fwX6_28 (by first | rfl | assumption) (Nat.le_of_ble_eq_true rfl) rfl (by first | rfl | assumption) ?_
    refine r_aload_n dX6_sendOnce_13 rfl rfl ?_
    refine r_getI (N := 35) dX6_sendOnce_14 fwX6_135 (by first | rfl | assumption) (Nat.le_of_ble_eq_true rfl) rfl ?_
    refine r_bipush 16 dX6_sendOnce_17 (by decide) ?_
    refine r_irem dX6_sendOnce_19 (by decide) ?_
    rw [e8, hrem]
    refine r_iload_n dX6_sendOnce_20 rfl rfl ?_
    refine r_iastore dX6_sendOnce_21 (by first | rfl | assumption) (by exact vp_in_nI hlt (by decide)) ?_
    rw [hcl]
    refine r_aload_n dX6_sendOnce_22 rfl rfl ?_
    first | refine r_dupR dX6_sendOnce_23 ?_ | refine r_dupI dX6_sendOnce_23 ?_
    refine r_getI (N := 35) dX6_sendOnce_24 fwX6_135 (by first | rfl | assumption) (Nat.le_of_ble_eq_true rfl) rfl ?_
    refine r_iconst 1 dX6_sendOnce_27 (by decide) ?_
    refine r_iadd dX6_sendOnce_28 ?_
    refine r_putI (N := 35) dX6_sendOnce_29 fwX6_135 (by first | rfl | assumption) (Nat.le_of_ble_eq_true rfl) rfl (Or.inl rfl) rfl rfl ?_
    refine r_aload_n dX6_sendOnce_32 rfl rfl ?_
    first | refine r_dupR dX6_sendOnce_33 ?_ | refine r_dupI dX6_sendOnce_33 ?_
    refine r_getI (N := 35) dX6_sendOnce_34 fwX6_147 (by first | rfl | assumption) (Nat.le_of_ble_eq_true rfl) rfl ?_
    refine r_iload_n dX6_sendOnce_37 rfl rfl ?_
    refine r_if_eq 45 dX6_sendOnce_38 (by decide) (fun c_38 => ?_) (fun c_38 => ?_)
    · refine r_iconst 0 dX6_sendOnce_45 (by decide) ?_
      refine r_iadd dX6_sendOnce_46 ?_
      refine r_putI (N := 35) dX6_sendOnce_47 fwX6_147 (by first | rfl | assumption) (Nat.le_of_ble_eq_true rfl) rfl (Or.inl rfl) rfl rfl ?_
      refine r_iload_n dX6_sendOnce_50 rfl rfl ?_
      refine r_ireturn dX6_sendOnce_51 rfl (Nat.zero_le _) (Nat.zero_le _) ?_
      refine ⟨rfl, ?_⟩
      simp only [u_sn (show (9 : Nat) ≠ 8 by decide), u_nn (show (40 : Nat) ≠ 47 by decide), e8, e9, nI_1]
      first | rw [if_pos c_38, Int32.add_zero] | rw [if_neg c_38]
    · refine r_iconst 1 dX6_sendOnce_41 (by decide) ?_
      refine r_goto 46 dX6_sendOnce_42 (by decide) ?_
      refine r_iadd dX6_sendOnce_46 ?_
      refine r_putI (N := 35) dX6_sendOnce_47 fwX6_147 (by first | rfl | assumption) (Nat.le_of_ble_eq_true rfl) rfl (Or.inl rfl) rfl rfl ?_
      refine r_iload_n dX6_sendOnce_50 rfl rfl ?_
      refine r_ireturn dX6_sendOnce_51 rfl (Nat.zero_le _) (Nat.zero_le _) ?_
      refine ⟨rfl, ?_⟩
      simp only [u_sn (show (9 : Nat) ≠ 8 by decide), u_nn (show (40 : Nat) ≠ 47 by decide), e8, e9, nI_1]
      first | rw [if_pos c_38, Int32.add_zero] | rw [if_neg c_38]
  · simp only [one]
    rw [u_sn (by decide), u_ss]
  · intro j hj
    simp only [one]
    rw [u_nn (by decide), u_nn (by decide)]
    by_cases hq : j = v.1 % 16
    · rw [hq, u_ss, upd_s]
    · rw [u_sn hq, upd_n hq, e47]; exact hv.2.1 j hj
  · simp only [one]
    rw [u_ss]
  · simp only [one]
    rw [u_sn (by decide), u_sn (by decide), u_nn (by decide)]; exact e10
  · simp only [one]
    rw [u_sn (by decide), u_sn (by decide), u_nn (by decide)]; exact e12
  · intro j hj
    simp only [one] at hj ⊢
    rw [u_nn (by decide), u_nn (by decide), u_nn (by decide)]
    exact e48 j hj
/-- TO SEND a frame: d tries are left -/
def dl (P : PL) (p : Nat → Int32) (n : Nat) : Nat → LSt → LSt × Bool
  | 0, v => ((v.1, v.2.1, v.2.2.1, v.2.2.2.1 + 1, v.2.2.2.2.1, v.2.2.2.2.2), false)
  | d + 1, v => if fdF P p n v.1 = 0 then (one P p n v, true) else dl P p n d (one P p n v)
theorem dl_fr (P : PL) (p : Nat → Int32) (n : Nat) : ∀ (d : Nat) (v : LSt), (dl P p n d v).1.1 ≤ v.1 + d
  | 0, v => by simp [dl]
  | d + 1, v => by
    simp only [dl]
    split
    · simp only [one]; omega
    · have := dl_fr P p n d (one P p n v)
      have h2 : (one P p n v).1 = v.1 + 1 := rfl
      omega
theorem PC.frS {M M' : Mem} {P : PL} {cs : List Nat} {ss : List (Nat × Nat)} (h : PC M P) (F : FrS cs ss M M') (h1 : 4 ∉ cs ∧ 11 ∉ cs ∧ 12 ∉ cs) (h2 : (4, 8) ∉ ss) (h3 : ∀ q ∈ ss, q.1 ≠ 11 ∧ q.1 ≠ 12) : PC M' P := ⟨by rw [F 4 8 h1.1 h2]; exact h.1, fun j q => ⟨by rw [F 11 j h1.2.1 (fun z => (h3 _ z).1 rfl)]; exact (h.2 j q).1, by rw [F 12 j h1.2.2 (fun z => (h3 _ z).2 rfl)]; exact (h.2 j q).2⟩⟩
theorem PM.frS {M M' : Mem} {P : PL} {cs : List Nat} {ss : List (Nat × Nat)} (h : PM M P) (F : FrS cs ss M M') (h1 : 40 ∉ cs ∧ 45 ∉ cs ∧ 46 ∉ cs) (h2 : (40, 5) ∉ ss) (h3 : ∀ q ∈ ss, q.1 ≠ 45 ∧ q.1 ≠ 46) : PM M' P := ⟨by rw [F 40 5 h1.1 h2]; exact h.1, fun j q => ⟨by rw [F 45 j h1.2.1 (fun z => (h3 _ z).1 rfl)]; exact (h.2 j q).1, by rw [F 46 j h1.2.2 (fun z => (h3 _ z).2 rfl)]; exact (h.2 j q).2⟩⟩
theorem HB.frS {M M' : Mem} {o r n : Nat} {f : Nat → Int32} {cs : List Nat} {ss : List (Nat × Nat)} (h : HB M o r n f) (F : FrS cs ss M M') (ho : o ∉ cs ∧ r ∉ cs) (hs : ∀ q ∈ ss, q.1 ≠ o ∧ q.1 ≠ r) : HB M' o r n f := ⟨by rw [F o 1 ho.1 (fun z => (hs _ z).1 rfl)]; exact h.1, h.2.1, fun j q => by rw [F r j ho.2 (fun z => (hs _ z).2 rfl)]; exact h.2.2 j q⟩
set_option maxHeartbeats 4000000 in
set_option maxRecDepth 100000 in
theorem x_dl_lp {o r n : Nat} {p : Nat → Int32} {P : PL} (hB : isBy o r) (ho1 : o ∉ [6, 7, 8, 9, 10, 13] ∧ r ∉ [6, 7, 8, 9, 10, 13]) (ho2 : o ≠ 4 ∧ r ≠ 4) (hp : okF p n) (okp : okP P) : ∀ (d k : Nat) (M : Mem) (v : LSt), k + d = 4 → TabC M → TabS M → HB M o r n p → VC M v → PC M P → v.1 + d < 2 ^ 31 → ∃ M', WP mX4_deliver 2 [some (.ref 4), some (.ref o), some (.int (nI k))] [] 0 0 (shp, rfs, M) (fun r1 h1 => r1 = some (.int (eI (dl P p n d v).2)) ∧ h1 = (shp, rfs, M')) ∧ VC M' (dl P p n d v).1 ∧ FrS [6, 7, 8, 9, 10, 13] [(4, 5), (4, 10), (4, 11), (4, 12)] M M' := by
  have ho3 : o ∉ [6, 7] ∧ r ∉ [6, 7] := by
    constructor
    · intro q; exact ho1.1 (by simp at q ⊢; omega)
    · intro q; exact ho1.2 (by simp at q ⊢; omega)
  have hss : ∀ q ∈ [(4, 5), (4, 10), (4, 11), (4, 12)], (q : Nat × Nat).1 ≠ o ∧ q.1 ≠ r := by
    intro q hq
    simp at hq
    rcases hq with rfl | rfl | rfl | rfl <;> exact ⟨Ne.symm ho2.1, Ne.symm ho2.2⟩
  intro d
  induction d with
  | zero =>
    intro k M v hk T TS H hv hP hfr
    have hk : k = 4 := by omega
    subst hk
    refine ⟨upd2 M 4 12 (M 4 12 + 1), ?_, ⟨?_, ?_, ?_, ?_, ?_, ?_⟩, FrS.rf.ups (by decide)⟩
    · refine r_iload_n dX4_deliver_2 rfl rfl ?_
      refine r_iconst 4 dX4_deliver_3 (by decide) ?_
      refine r_icmp_ge 23 dX4_deliver_4 (by decide) (fun c_4 => ?_) (fun c_4 => absurd (by decide) c_4)
      refine r_aload_n dX4_deliver_23 rfl rfl ?_
      first | refine r_dupR dX4_deliver_24 ?_ | refine r_dupI dX4_deliver_24 ?_
      refine r_getI (N := 13) dX4_deliver_25 fwX4_61 (by first | rfl | assumption) (Nat.le_of_ble_eq_true rfl) rfl ?_
      refine r_iconst 1 dX4_deliver_28 (by decide) ?_
      refine r_iadd dX4_deliver_29 ?_
      refine r_putI (N := 13) dX4_deliver_30 fwX4_61 (by first | rfl | assumption) (Nat.le_of_ble_eq_true rfl) rfl (Or.inl rfl) rfl rfl ?_
      refine r_iconst 0 dX4_deliver_33 (by decide) ?_
      refine r_zreturn dX4_deliver_34 rfl (by decide) (Nat.zero_le _) (Nat.zero_le _) ?_
      exact ⟨rfl, rfl⟩
    · simp only [dl]; rw [u_sn (by decide)]; exact hv.1
    · intro j hj; simp only [dl]; rw [u_nn (by decide)]; exact hv.2.1 j hj
    · simp only [dl]; rw [u_sn (by decide)]; exact hv.2.2.1
    · simp only [dl]; rw [u_ss, hv.2.2.2.1]
    · simp only [dl]; rw [u_sn (by decide)]; exact hv.2.2.2.2.1
    · intro j hj; simp only [dl] at hj ⊢; rw [u_nn (by decide)]; exact hv.2.2.2.2.2 j hj
  | succ d ih =>
    intro k M v hk T TS H hv hP hfr
    obtain ⟨M1, g1, v1, F1⟩ := x_sendOnce T TS hB ho3 H hp hv hP okp (by omega)
    have F1' : FrS [6, 7, 8, 9, 10, 13] [(4, 5), (4, 10), (4, 11), (4, 12)] M M1 := F1.mono (by decide) (by decide)
    simp only [dl]
    by_cases hf : fdF P p n v.1 = 0
    · rw [if_pos hf]
      refine ⟨M1, ?_, v1, F1'⟩
      rw [hf] at g1
      refine r_iload_n dX4_deliver_2 rfl rfl ?_
      refine r_iconst 4 dX4_deliver_3 (by decide) ?_
      refine r_icmp_ge 23 dX4_deliver_4 (by decide) (fun c_4 => absurd c_4 (nI_ge (a := k) (b := 4) (by omega) (by decide))) (fun c_4 => ?_)
      refine r_aload_n dX4_deliver_7 rfl rfl ?_
      refine r_aload_n dX4_deliver_8 rfl rfl ?_
      refine gV1 (Y := mX4_sendOnce) (ci := 4) (N := 13) dX4_deliver_9 mlX4_57 vkX4_sendOnce (by first | rfl | assumption) ⟨by decide, rfl⟩ rfl g1 ?_
      refine r_if_ne 17 dX4_deliver_12 (by decide) (fun c_12 => absurd rfl c_12) (fun c_12 => ?_)
      refine r_iconst 1 dX4_deliver_15 (by decide) ?_
      refine r_zreturn dX4_deliver_16 rfl (by decide) (Nat.zero_le _) (Nat.zero_le _) ?_
      exact ⟨rfl, rfl⟩
    · rw [if_neg hf]
      obtain ⟨M', w, v', F'⟩ := ih (k + 1) M1 (one P p n v) (by omega) (T.frS F1 (by decide) (by decide)) (TS.frS F1 (by decide) (by decide)) (H.frS F1' ho1 hss) v1 (hP.frS F1 (by decide) (by decide) (by decide)) (by simp only [one]; omega)
      refine ⟨M', ?_, v', F1'.tr F'⟩
      refine r_iload_n dX4_deliver_2 rfl rfl ?_
      refine r_iconst 4 dX4_deliver_3 (by decide) ?_
      refine r_icmp_ge 23 dX4_deliver_4 (by decide) (fun c_4 => absurd c_4 (nI_ge (a := k) (b := 4) (by omega) (by decide))) (fun c_4 => ?_)
      refine r_aload_n dX4_deliver_7 rfl rfl ?_
      refine r_aload_n dX4_deliver_8 rfl rfl ?_
      refine gV1 (Y := mX4_sendOnce) (ci := 4) (N := 13) dX4_deliver_9 mlX4_57 vkX4_sendOnce (by first | rfl | assumption) ⟨by decide, rfl⟩ rfl g1 ?_
      refine r_if_ne 17 dX4_deliver_12 (by decide) (fun c_12 => ?_) (fun c_12 => absurd c_12 hf)
      refine r_iinc_2 (_ + 1) dX4_deliver_17 rfl (Nat.le_of_ble_eq_true rfl) rfl ?_
      refine r_goto 2 dX4_deliver_20 (by decide) ?_
      rw [nI_1]
      exact w
set_option maxHeartbeats 4000000 in
set_option maxRecDepth 100000 in
theorem x_deliver {o r n : Nat} {p : Nat → Int32} {P : PL} {M : Mem} {v : LSt} (hB : isBy o r) (ho1 : o ∉ [6, 7, 8, 9, 10, 13] ∧ r ∉ [6, 7, 8, 9, 10, 13]) (ho2 : o ≠ 4 ∧ r ≠ 4) (hp : okF p n) (okp : okP P) (T : TabC M) (TS : TabS M) (H : HB M o r n p) (hv : VC M v) (hP : PC M P) (hfr : v.1 + 4 < 2 ^ 31) : ∃ M', Gv mX4_deliver [.ref 4, .ref o] M (some (.int (eI (dl P p n 4 v).2))) M' ∧ VC M' (dl P p n 4 v).1 ∧ FrS [6, 7, 8, 9, 10, 13] [(4, 5), (4, 10), (4, 11), (4, 12)] M M' := by
  obtain ⟨M', w, v', F'⟩ := x_dl_lp hB ho1 ho2 hp okp 4 0 M v rfl T TS H hv hP hfr
  refine ⟨M', ?_, v', F'⟩
  refine con_of (lv := [some (.ref 4), some (.ref o), none]) (by decide) rfl (Nat.le_of_ble_eq_true rfl) (by simp [lvle]) ?_
  refine r_iconst 0 dX4_deliver_0 (by decide) ?_
  refine r_istore_n2 dX4_deliver_1 rfl (Nat.le_of_ble_eq_true rfl) ?_
  exact w
set_option maxHeartbeats 4000000 in
set_option maxRecDepth 100000 in
theorem m_dl_lp {n : Nat} {p : Nat → Int32} {P : PL} (hp : okF p n) (okp : okP P) : ∀ (d k : Nat) (M : Mem) (v : LSt), k + d = 4 → TabM M → HP M n p → VM M v → PM M P → v.1 + d < 2 ^ 31 → ∃ M', WP mX6_send 2 [some (.ref 40), some (.int (nI k))] [] 0 0 (shp, rfs, M) (fun r1 h1 => r1 = some (.int (eI (dl P p n d v).2)) ∧ h1 = (shp, rfs, M')) ∧ VM M' (dl P p n d v).1 ∧ FrS [47, 48, 50] [(40, 12), (40, 34), (40, 33), (40, 8), (40, 9), (40, 10)] M M' := by
  intro d
  induction d with
  | zero =>
    intro k M v hk T H hv hP hfr
    have hk : k = 4 := by omega
    subst hk
    refine ⟨upd2 M 40 10 (M 40 10 + 1), ?_, ⟨?_, ?_, ?_, ?_, ?_, ?_⟩, FrS.rf.ups (by decide)⟩
    · refine r_iload_n dX6_send_2 rfl rfl ?_
      refine r_iconst 4 dX6_send_3 (by decide) ?_
      refine r_icmp_ge 22 dX6_send_4 (by decide) (fun c_4 => ?_) (fun c_4 => absurd (by decide) c_4)
      refine r_aload_n dX6_send_22 rfl rfl ?_
      first | refine r_dupR dX6_send_23 ?_ | refine r_dupI dX6_send_23 ?_
      refine r_getI (N := 35) dX6_send_24 fwX6_153 (by first | rfl | assumption) (Nat.le_of_ble_eq_true rfl) rfl ?_
      refine r_iconst 1 dX6_send_27 (by decide) ?_
      refine r_iadd dX6_send_28 ?_
      refine r_putI (N := 35) dX6_send_29 fwX6_153 (by first | rfl | assumption) (Nat.le_of_ble_eq_true rfl) rfl (Or.inl rfl) rfl rfl ?_
      refine r_iconst 0 dX6_send_32 (by decide) ?_
      refine r_zreturn dX6_send_33 rfl (by decide) (Nat.zero_le _) (Nat.zero_le _) ?_
      exact ⟨rfl, rfl⟩
    · simp only [dl]; rw [u_sn (by decide)]; exact hv.1
    · intro j hj; simp only [dl]; rw [u_nn (by decide)]; exact hv.2.1 j hj
    · simp only [dl]; rw [u_sn (by decide)]; exact hv.2.2.1
    · simp only [dl]; rw [u_ss, hv.2.2.2.1]
    · simp only [dl]; rw [u_sn (by decide)]; exact hv.2.2.2.2.1
    · intro j hj; simp only [dl] at hj ⊢; rw [u_nn (by decide)]; exact hv.2.2.2.2.2 j hj
  | succ d ih =>
    intro k M v hk T H hv hP hfr
    obtain ⟨M1, g1, v1, F1⟩ := m_sendOnce T H hp hv hP okp (by omega)
    have F1' : FrS [47, 48, 50] [(40, 12), (40, 34), (40, 33), (40, 8), (40, 9), (40, 10)] M M1 := F1.mono (by decide) (by decide)
    simp only [dl]
    by_cases hf : fdF P p n v.1 = 0
    · rw [if_pos hf]
      refine ⟨M1, ?_, v1, F1'⟩
      rw [hf] at g1
      refine r_iload_n dX6_send_2 rfl rfl ?_
      refine r_iconst 4 dX6_send_3 (by decide) ?_
      refine r_icmp_ge 22 dX6_send_4 (by decide) (fun c_4 => absurd c_4 (nI_ge (a := k) (b := 4) (by omega) (by decide))) (fun c_4 => ?_)
      refine r_aload_n dX6_send_7 rfl rfl ?_
      refine gV0 (Y := mX6_sendOnce) (ci := 6) (N := 35) dX6_send_8 mlX6_150 vkX6_sendOnce (by first | rfl | assumption) ⟨by decide, rfl⟩ rfl g1 ?_
      refine r_if_ne 16 dX6_send_11 (by decide) (fun c_11 => absurd rfl c_11) (fun c_11 => ?_)
      refine r_iconst 1 dX6_send_14 (by decide) ?_
      refine r_zreturn dX6_send_15 rfl (by decide) (Nat.zero_le _) (Nat.zero_le _) ?_
      exact ⟨rfl, rfl⟩
    · rw [if_neg hf]
      obtain ⟨M', w, v', F'⟩ := ih (k + 1) M1 (one P p n v) (by omega) (T.frS F1 (by decide) (by decide)) (H.frS F1 (by decide) (by decide) (by decide)) v1 (hP.frS F1 (by decide) (by decide) (by decide)) (by simp only [one]; omega)
      refine ⟨M', ?_, v', F1'.tr F'⟩
      refine r_iload_n dX6_send_2 rfl rfl ?_
      refine r_iconst 4 dX6_send_3 (by decide) ?_
      refine r_icmp_ge 22 dX6_send_4 (by decide) (fun c_4 => absurd c_4 (nI_ge (a := k) (b := 4) (by omega) (by decide))) (fun c_4 => ?_)
      refine r_aload_n dX6_send_7 rfl rfl ?_
      refine gV0 (Y := mX6_sendOnce) (ci := 6) (N := 35) dX6_send_8 mlX6_150 vkX6_sendOnce (by first | rfl | assumption) ⟨by decide, rfl⟩ rfl g1 ?_
      refine r_if_ne 16 dX6_send_11 (by decide) (fun c_11 => ?_) (fun c_11 => absurd c_11 hf)
      refine r_iinc_1 (_ + 1) dX6_send_16 rfl (Nat.le_of_ble_eq_true rfl) rfl ?_
      refine r_goto 2 dX6_send_19 (by decide) ?_
      rw [nI_1]
      exact w
set_option maxHeartbeats 4000000 in
set_option maxRecDepth 100000 in
theorem m_send {n : Nat} {p : Nat → Int32} {P : PL} {M : Mem} {v : LSt} (hp : okF p n) (okp : okP P) (T : TabM M) (H : HP M n p) (hv : VM M v) (hP : PM M P) (hfr : v.1 + 4 < 2 ^ 31) : ∃ M', Gv mX6_send [.ref 40] M (some (.int (eI (dl P p n 4 v).2))) M' ∧ VM M' (dl P p n 4 v).1 ∧ FrS [47, 48, 50] [(40, 12), (40, 34), (40, 33), (40, 8), (40, 9), (40, 10)] M M' := by
  obtain ⟨M', w, v', F'⟩ := m_dl_lp hp okp 4 0 M v rfl T H hv hP hfr
  refine ⟨M', ?_, v', F'⟩
  refine con_of (lv := [some (.ref 40), none]) (by decide) rfl (Nat.le_of_ble_eq_true rfl) (by simp [lvle]) ?_
  refine r_iconst 0 dX6_send_0 (by decide) ?_
  refine r_istore_n1 dX6_send_1 rfl (Nat.le_of_ble_eq_true rfl) ?_
  exact w
end
section
/-- the disk: its numbers, how many the cache has, their sectors, their numbers -/
abbrev DSt : Type := (Nat → Int32) × Nat × (Nat → Nat) × (Nat → Int32)
def DC (M : Mem) (d : DSt) : Prop := (∀ j, j < 32 → M 15 j = d.1 j) ∧ M 14 3 = nI d.2.1 ∧ ∀ j, j < d.2.1 → M 16 j = nI (d.2.2.1 j) ∧ M 17 j = d.2.2.2 j
def DM (M : Mem) (d : DSt) : Prop := (∀ j, j < 32 → M 51 j = d.1 j) ∧ M 40 18 = nI d.2.1 ∧ ∀ j, j < d.2.1 → M 52 j = nI (d.2.2.1 j) ∧ M 53 j = d.2.2.2 j
def okD (d : DSt) : Prop := d.2.1 ≤ 6 ∧ ∀ j, j < d.2.1 → d.2.2.1 j < 32
def fo (cs : Nat → Nat) (s : Nat) : Nat → Nat → Option Nat
  | 0, _ => none
  | d + 1, k => if cs k = s then some k else fo cs s d (k + 1)
def oI : Option Nat → Int32
  | none => -1
  | some i => nI i
theorem fo_some {cs : Nat → Nat} {s : Nat} : ∀ (d k i : Nat), fo cs s d k = some i → k ≤ i ∧ i < k + d ∧ cs i = s
  | 0, k, i, h => by cases h
  | d + 1, k, i, h => by
    simp only [fo] at h
    split at h
    · cases h; exact ⟨by omega, by omega, by assumption⟩
    · have := fo_some d (k + 1) i h
      exact ⟨by omega, by omega, this.2.2⟩
def sh {α : Type} (f : Nat → α) (i : Nat) : Nat → α := fun j => if j < i then f j else f (j + 1)
def rem (d : DSt) (i : Nat) : DSt := (d.1, d.2.1 - 1, sh d.2.2.1 i, sh d.2.2.2 i)
def plc (d : DSt) (s : Nat) : Option Nat := fo d.2.2.1 s d.2.1 0
def rds (d : DSt) (s : Nat) : Int32 := match plc d s with
  | none => d.1 s
  | some i => d.2.2.2 i
def wr1 (d : DSt) : DSt := if d.2.1 = 6 then rem (upd d.1 (d.2.2.1 0) (d.2.2.2 0), d.2.1, d.2.2.1, d.2.2.2) 0 else d
def wrt (d : DSt) (s : Nat) (v : Int32) : DSt := match plc d s with
  | some i => (d.1, d.2.1, d.2.2.1, upd d.2.2.2 i v)
  | none => ((wr1 d).1, (wr1 d).2.1 + 1, va_up (wr1 d).2.2.1 (wr1 d).2.1 s, upd (wr1 d).2.2.2 (wr1 d).2.1 v)
def thr (d : DSt) (s : Nat) (v : Int32) : DSt := match plc d s with
  | some i => (upd d.1 s v, (rem d i).2)
  | none => (upd d.1 s v, d.2)
def lyd (dk : Nat → Int32) (cs : Nat → Nat) (cn : Nat → Int32) : Nat → Nat → Int32
  | 0 => dk
  | k + 1 => upd (lyd dk cs cn k) (cs k) (cn k)
def layD (d : DSt) : DSt := (lyd d.1 d.2.2.1 d.2.2.2 d.2.1, 0, d.2.2.1, d.2.2.2)
theorem plc_some {d : DSt} {s i : Nat} (h : plc d s = some i) : i < d.2.1 ∧ d.2.2.1 i = s := by
  have := fo_some _ _ _ h
  exact ⟨by omega, this.2.2⟩
theorem rem_ok {d : DSt} {i : Nat} (h : okD d) : okD (rem d i) := by
  refine ⟨?_, fun j hj => ?_⟩
  · show d.2.1 - 1 ≤ 6
    have := h.1
    omega
  · have hj : j < d.2.1 - 1 := hj
    show sh d.2.2.1 i j < 32
    unfold sh
    split
    · exact h.2 j (by omega)
    · exact h.2 (j + 1) (by omega)
theorem wr1_ok {d : DSt} (h : okD d) : okD (wr1 d) ∧ (wr1 d).2.1 ≤ 5 := by
  unfold wr1
  split
  · have h1 : okD (upd d.1 (d.2.2.1 0) (d.2.2.2 0), d.2.1, d.2.2.1, d.2.2.2) := h
    refine ⟨rem_ok h1, ?_⟩
    show d.2.1 - 1 ≤ 5
    have := h.1
    omega
  · exact ⟨h, by have := h.1; omega⟩
theorem wrt_ok {d : DSt} {s : Nat} {v : Int32} (h : okD d) (hs : s < 32) : okD (wrt d s v) := by
  unfold wrt
  split
  · exact h
  · obtain ⟨h1, h2⟩ := wr1_ok h
    refine ⟨?_, fun j hj => ?_⟩
    · show (wr1 d).2.1 + 1 ≤ 6
      omega
    · have hj : j < (wr1 d).2.1 + 1 := hj
      show va_up _ _ _ j < 32
      unfold va_up
      split
      · exact hs
      · exact h1.2 j (by omega)
theorem thr_ok {d : DSt} {s : Nat} {v : Int32} (h : okD d) : okD (thr d s v) := by
  unfold thr
  split
  · exact rem_ok (d := d) h
  · exact h
theorem lay_ok {d : DSt} : okD (layD d) := ⟨by show 0 ≤ 6; omega, fun j hj => absurd hj (by show ¬ j < 0; omega)⟩
set_option maxHeartbeats 4000000 in
set_option maxRecDepth 100000 in
theorem x_plc_lp {M : Mem} {d : DSt} {s : Nat} (h : DC M d) (ok : okD d) (hs : s < 2 ^ 31) : ∀ (e k : Nat), k + e = d.2.1 → WP mX3_placeInCache 2 [some (.ref 14), some (.int (nI s)), some (.int (nI k))] [] 0 0 (shp, rfs, M) (fun r1 h1 => r1 = some (.int (oI (fo d.2.2.1 s e k))) ∧ h1 = (shp, rfs, M)) := by
  have u6 := ok.1
  intro e
  induction e with
  | zero =>
    intro k hk
    have hk : k = d.2.1 := by omega
    refine r_iload_n dX3_placeInCache_2 rfl rfl ?_
    refine r_aload_n dX3_placeInCache_3 rfl rfl ?_
    refine r_getI (N := 4) dX3_placeInCache_4 fwX3_28 (by first | rfl | assumption) (Nat.le_of_ble_eq_true rfl) rfl ?_
    refine r_icmp_ge 28 dX3_placeInCache_7 (by decide) (fun c_7 => ?_) (fun c_7 => absurd (by rw [h.2.1]; exact nI_le (by omega) (by omega)) c_7)
    refine r_iconst (-1) dX3_placeInCache_28 (by decide) ?_
    refine r_ireturn dX3_placeInCache_29 rfl (Nat.zero_le _) (Nat.zero_le _) ?_
    exact ⟨rfl, rfl⟩
  | succ e ih =>
    intro k hk
    have hcl : (nI k).toNatClampNeg = k := nI_clamp (by omega)
    have hc := ok.2 k (by omega)
    simp only [fo]
    refine r_iload_n dX3_placeInCache_2 rfl rfl ?_
    refine r_aload_n dX3_placeInCache_3 rfl rfl ?_
    refine r_getI (N := 4) dX3_placeInCache_4 fwX3_28 (by first | rfl | assumption) (Nat.le_of_ble_eq_true rfl) rfl ?_
    refine r_icmp_ge 28 dX3_placeInCache_7 (by decide) (fun c_7 => absurd c_7 (by rw [h.2.1]; exact nI_ge (by omega) (by omega))) (fun c_7 => ?_)
    refine r_aload_n dX3_placeInCache_10 rfl rfl ?_
    refine r_getR (N := 4) dX3_placeInCache_11 fwX3_15 (by first | rfl | assumption) (Nat.le_of_ble_eq_true rfl) rfl (by first | rfl | assumption) ?_
    refine r_iload_n dX3_placeInCache_14 rfl rfl ?_
    refine r_iaload dX3_placeInCache_15 (by first | rfl | assumption) (by exact vp_in_nI (by omega) (by decide)) ?_
    refine r_iload_n dX3_placeInCache_16 rfl rfl ?_
    rw [hcl, (h.2.2 k (by omega)).1]
    refine r_icmp_ne 22 dX3_placeInCache_17 (by decide) (fun c_17 => ?_) (fun c_17 => ?_)
    · refine r_iinc_2 (_ + 1) dX3_placeInCache_22 rfl (Nat.le_of_ble_eq_true rfl) rfl ?_
      refine r_goto 2 dX3_placeInCache_25 (by decide) ?_
      rw [nI_1, if_neg (fun q => c_17 (by rw [q]))]
      exact ih (k + 1) (by omega)
    · refine r_iload_n dX3_placeInCache_20 rfl rfl ?_
      refine r_ireturn dX3_placeInCache_21 rfl (Nat.zero_le _) (Nat.zero_le _) ?_
      rw [if_pos ((nI_eq (by omega) hs).mp c_17)]
      exact ⟨rfl, rfl⟩
set_option maxHeartbeats 4000000 in
set_option maxRecDepth 100000 in
theorem x_plc {M : Mem} {d : DSt} {s : Nat} (h : DC M d) (ok : okD d) (hs : s < 2 ^ 31) : Gv mX3_placeInCache [.ref 14, .int (nI s)] M (some (.int (oI (plc d s)))) M := by
  have hl := x_plc_lp h ok hs d.2.1 0 (by omega)
  refine con_of (lv := [some (.ref 14), some (.int (nI s)), none]) (by decide) rfl (Nat.le_of_ble_eq_true rfl) (by simp [lvle]) ?_
  refine r_iconst 0 dX3_placeInCache_0 (by decide) ?_
  refine r_istore_n2 dX3_placeInCache_1 rfl (Nat.le_of_ble_eq_true rfl) ?_
  exact hl
set_option maxHeartbeats 4000000 in
set_option maxRecDepth 100000 in
theorem m_plc_lp {M : Mem} {d : DSt} {s : Nat} (h : DM M d) (ok : okD d) (hs : s < 2 ^ 31) : ∀ (e k : Nat), k + e = d.2.1 → WP mX6_placeOf 2 [some (.ref 40), some (.int (nI s)), some (.int (nI k))] [] 0 0 (shp, rfs, M) (fun r1 h1 => r1 = some (.int (oI (fo d.2.2.1 s e k))) ∧ h1 = (shp, rfs, M)) := by
  have u6 := ok.1
  intro e
  induction e with
  | zero =>
    intro k hk
    have hk : k = d.2.1 := by omega
    refine r_iload_n dX6_placeOf_2 rfl rfl ?_
    refine r_aload_n dX6_placeOf_3 rfl rfl ?_
    refine r_getI (N := 35) dX6_placeOf_4 fwX6_171 (by first | rfl | assumption) (Nat.le_of_ble_eq_true rfl) rfl ?_
    refine r_icmp_ge 28 dX6_placeOf_7 (by decide) (fun c_7 => ?_) (fun c_7 => absurd (by rw [h.2.1]; exact nI_le (by omega) (by omega)) c_7)
    refine r_iconst (-1) dX6_placeOf_28 (by decide) ?_
    refine r_ireturn dX6_placeOf_29 rfl (Nat.zero_le _) (Nat.zero_le _) ?_
    exact ⟨rfl, rfl⟩
  | succ e ih =>
    intro k hk
    have hcl : (nI k).toNatClampNeg = k := nI_clamp (by omega)
    have hc := ok.2 k (by omega)
    simp only [fo]
    refine r_iload_n dX6_placeOf_2 rfl rfl ?_
    refine r_aload_n dX6_placeOf_3 rfl rfl ?_
    refine r_getI (N := 35) dX6_placeOf_4 fwX6_171 (by first | rfl | assumption) (Nat.le_of_ble_eq_true rfl) rfl ?_
    refine r_icmp_ge 28 dX6_placeOf_7 (by decide) (fun c_7 => absurd c_7 (by rw [h.2.1]; exact nI_ge (by omega) (by omega))) (fun c_7 => ?_)
    refine r_aload_n dX6_placeOf_10 rfl rfl ?_
    refine r_getR (N := 35) dX6_placeOf_11 fwX6_43 (by first | rfl | assumption) (Nat.le_of_ble_eq_true rfl) rfl (by first | rfl | assumption) ?_
    refine r_iload_n dX6_placeOf_14 rfl rfl ?_
    refine r_iaload dX6_placeOf_15 (by first | rfl | assumption) (by exact vp_in_nI (by omega) (by decide)) ?_
    refine r_iload_n dX6_placeOf_16 rfl rfl ?_
    rw [hcl, (h.2.2 k (by omega)).1]
    refine r_icmp_ne 22 dX6_placeOf_17 (by decide) (fun c_17 => ?_) (fun c_17 => ?_)
    · refine r_iinc_2 (_ + 1) dX6_placeOf_22 rfl (Nat.le_of_ble_eq_true rfl) rfl ?_
      refine r_goto 2 dX6_placeOf_25 (by decide) ?_
      rw [nI_1, if_neg (fun q => c_17 (by rw [q]))]
      exact ih (k + 1) (by omega)
    · refine r_iload_n dX6_placeOf_20 rfl rfl ?_
      refine r_ireturn dX6_placeOf_21 rfl (Nat.zero_le _) (Nat.zero_le _) ?_
      rw [if_pos ((nI_eq (by omega) hs).mp c_17)]
      exact ⟨rfl, rfl⟩
set_option maxHeartbeats 4000000 in
set_option maxRecDepth 100000 in
theorem m_plc {M : Mem} {d : DSt} {s : Nat} (h : DM M d) (ok : okD d) (hs : s < 2 ^ 31) : Gv mX6_placeOf [.ref 40, .int (nI s)] M (some (.int (oI (plc d s)))) M := by
  have hl := m_plc_lp h ok hs d.2.1 0 (by omega)
  refine con_of (lv := [some (.ref 40), some (.int (nI s)), none]) (by decide) rfl (Nat.le_of_ble_eq_true rfl) (by simp [lvle]) ?_
  refine r_iconst 0 dX6_placeOf_0 (by decide) ?_
  refine r_istore_n2 dX6_placeOf_1 rfl (Nat.le_of_ble_eq_true rfl) ?_
  exact hl
set_option maxHeartbeats 4000000 in
set_option maxRecDepth 100000 in
theorem x_onDisk {M : Mem} {s : Nat} (hs : s < 32) : Gv mX3_numberOnDisk [.ref 14, .int (nI s)] M (some (.int (M 15 s))) M := by
  have hcl : (nI s).toNatClampNeg = s := nI_clamp (by omega)
  refine con_of (lv := [some (.ref 14), some (.int (nI s))]) (by decide) rfl (Nat.le_of_ble_eq_true rfl) (by simp [lvle]) ?_
  refine r_iload_n dX3_numberOnDisk_0 rfl rfl ?_
  refine r_if_lt 22 dX3_numberOnDisk_1 (by decide) (fun c_1 => absurd c_1 (nI_pos (by omega))) (fun c_1 => ?_)
  refine r_iload_n dX3_numberOnDisk_4 rfl rfl ?_
  refine r_aload_n dX3_numberOnDisk_5 rfl rfl ?_
  refine r_getR (N := 4) dX3_numberOnDisk_6 fwX3_9 (by first | rfl | assumption) (Nat.le_of_ble_eq_true rfl) rfl (by first | rfl | assumption) ?_
  refine r_alen dX3_numberOnDisk_9 (by first | rfl | assumption) (by first | exact Or.inl rfl | exact Or.inr rfl) ?_
  refine r_icmp_ge 22 dX3_numberOnDisk_10 (by decide) (fun c_10 => absurd c_10 (nI_ge hs (by decide))) (fun c_10 => ?_)
  refine r_aload_n dX3_numberOnDisk_13 rfl rfl ?_
  refine r_getR (N := 4) dX3_numberOnDisk_14 fwX3_9 (by first | rfl | assumption) (Nat.le_of_ble_eq_true rfl) rfl (by first | rfl | assumption) ?_
  refine r_iload_n dX3_numberOnDisk_17 rfl rfl ?_
  refine r_iaload dX3_numberOnDisk_18 (by first | rfl | assumption) (by exact vp_in_nI hs (by decide)) ?_
  refine r_goto 23 dX3_numberOnDisk_19 (by decide) ?_
  refine r_ireturn dX3_numberOnDisk_23 rfl (Nat.zero_le _) (Nat.zero_le _) ?_
  rw [hcl]
  exact ⟨rfl, rfl⟩
set_option maxHeartbeats 4000000 in
set_option maxRecDepth 100000 in
theorem x_onDisk_o {M : Mem} {x : Int32} (h : x < 0 ∨ nI 32 ≤ x) : Gv mX3_numberOnDisk [.ref 14, .int x] M (some (.int 0)) M := by
  refine con_of (lv := [some (.ref 14), some (.int x)]) (by decide) rfl (Nat.le_of_ble_eq_true rfl) (by simp [lvle]) ?_
  refine r_iload_n dX3_numberOnDisk_0 rfl rfl ?_
  refine r_if_lt 22 dX3_numberOnDisk_1 (by decide) (fun c_1 => ?_) (fun c_1 => ?_)
  · refine r_iconst 0 dX3_numberOnDisk_22 (by decide) ?_
    refine r_ireturn dX3_numberOnDisk_23 rfl (Nat.zero_le _) (Nat.zero_le _) ?_
    exact ⟨rfl, rfl⟩
  · refine r_iload_n dX3_numberOnDisk_4 rfl rfl ?_
    refine r_aload_n dX3_numberOnDisk_5 rfl rfl ?_
    refine r_getR (N := 4) dX3_numberOnDisk_6 fwX3_9 (by first | rfl | assumption) (Nat.le_of_ble_eq_true rfl) rfl (by first | rfl | assumption) ?_
    refine r_alen dX3_numberOnDisk_9 (by first | rfl | assumption) (by first | exact Or.inl rfl | exact Or.inr rfl) ?_
    refine r_icmp_ge 22 dX3_numberOnDisk_10 (by decide) (fun c_10 => ?_) (fun c_10 => absurd h (fun q => q.elim c_1 c_10))
    refine r_iconst 0 dX3_numberOnDisk_22 (by decide) ?_
    refine r_ireturn dX3_numberOnDisk_23 rfl (Nat.zero_le _) (Nat.zero_le _) ?_
    exact ⟨rfl, rfl⟩
set_option maxHeartbeats 4000000 in
set_option maxRecDepth 100000 in
theorem x_put {M : Mem} {s : Nat} {v : Int32} (hs : s < 32) : Gv mX3_putOnDisk [.ref 14, .int (nI s), .int v] M none (upd2 M 15 s v) := by
  have hcl : (nI s).toNatClampNeg = s := nI_clamp (by omega)
  refine con_of (lv := [some (.ref 14), some (.int (nI s)), some (.int v)]) (by decide) rfl (Nat.le_of_ble_eq_true rfl) (by simp [lvle]) ?_
  refine r_iload_n dX3_putOnDisk_0 rfl rfl ?_
  refine r_if_lt 20 dX3_putOnDisk_1 (by decide) (fun c_1 => absurd c_1 (nI_pos (by omega))) (fun c_1 => ?_)
  refine r_iload_n dX3_putOnDisk_4 rfl rfl ?_
  refine r_aload_n dX3_putOnDisk_5 rfl rfl ?_
  refine r_getR (N := 4) dX3_putOnDisk_6 fwX3_9 (by first | rfl | assumption) (Nat.le_of_ble_eq_true rfl) rfl (by first | rfl | assumption) ?_
  refine r_alen dX3_putOnDisk_9 (by first | rfl | assumption) (by first | exact Or.inl rfl | exact Or.inr rfl) ?_
  refine r_icmp_ge 20 dX3_putOnDisk_10 (by decide) (fun c_10 => absurd c_10 (nI_ge hs (by decide))) (fun c_10 => ?_)
  refine r_aload_n dX3_putOnDisk_13 rfl rfl ?_
  refine r_getR (N := 4) dX3_putOnDisk_14 fwX3_9 (by first | rfl | assumption) (Nat.le_of_ble_eq_true rfl) rfl (by first | rfl | assumption) ?_
  refine r_iload_n dX3_putOnDisk_17 rfl rfl ?_
  refine r_iload_n dX3_putOnDisk_18 rfl rfl ?_
  refine r_iastore dX3_putOnDisk_19 (by first | rfl | assumption) (by exact vp_in_nI hs (by decide)) ?_
  refine r_return dX3_putOnDisk_20 rfl (Nat.zero_le _) (Nat.zero_le _) ?_
  rw [hcl]
  exact ⟨rfl, rfl⟩
set_option maxHeartbeats 4000000 in
set_option maxRecDepth 100000 in
theorem x_asRead {M : Mem} {d : DSt} {s : Nat} (h : DC M d) (ok : okD d) (hs : s < 32) : Gv mX3_numberAsRead [.ref 14, .int (nI s)] M (some (.int (rds d s))) M := by
  have g := x_plc h ok (s := s) (by omega)
  have g2 := x_onDisk (M := M) hs
  rw [h.1 s hs] at g2
  refine con_of (lv := [some (.ref 14), some (.int (nI s)), none]) (by decide) rfl (Nat.le_of_ble_eq_true rfl) (by simp [lvle]) ?_
  unfold rds
  cases hp : plc d s with
  | none =>
    rw [hp] at g
    refine r_aload_n dX3_numberAsRead_0 rfl rfl ?_
    refine r_iload_n dX3_numberAsRead_1 rfl rfl ?_
    refine gV1 (Y := mX3_placeInCache) (ci := 3) (N := 4) dX3_numberAsRead_2 mlX3_21 vkX3_placeInCache (by first | rfl | assumption) ⟨by decide, rfl⟩ rfl g ?_
    refine r_istore_n2 dX3_numberAsRead_5 rfl (Nat.le_of_ble_eq_true rfl) ?_
    refine r_iload_n dX3_numberAsRead_6 rfl rfl ?_
    refine r_if_lt 19 dX3_numberAsRead_7 (by decide) (fun c_7 => ?_) (fun c_7 => absurd (by decide) c_7)
    refine r_aload_n dX3_numberAsRead_19 rfl rfl ?_
    refine r_iload_n dX3_numberAsRead_20 rfl rfl ?_
    refine gV1 (Y := mX3_numberOnDisk) (ci := 3) (N := 4) dX3_numberAsRead_21 mlX3_25 vkX3_numberOnDisk (by first | rfl | assumption) ⟨by decide, rfl⟩ rfl g2 ?_
    refine r_ireturn dX3_numberAsRead_24 rfl (Nat.zero_le _) (Nat.zero_le _) ?_
    exact ⟨rfl, rfl⟩
  | some i =>
    rw [hp] at g
    have hi := (plc_some hp).1
    have u6 := ok.1
    have hcl : (nI i).toNatClampNeg = i := nI_clamp (by omega)
    refine r_aload_n dX3_numberAsRead_0 rfl rfl ?_
    refine r_iload_n dX3_numberAsRead_1 rfl rfl ?_
    refine gV1 (Y := mX3_placeInCache) (ci := 3) (N := 4) dX3_numberAsRead_2 mlX3_21 vkX3_placeInCache (by first | rfl | assumption) ⟨by decide, rfl⟩ rfl g ?_
    refine r_istore_n2 dX3_numberAsRead_5 rfl (Nat.le_of_ble_eq_true rfl) ?_
    refine r_iload_n dX3_numberAsRead_6 rfl rfl ?_
    refine r_if_lt 19 dX3_numberAsRead_7 (by decide) (fun c_7 => absurd c_7 (nI_pos (by omega))) (fun c_7 => ?_)
    refine r_aload_n dX3_numberAsRead_10 rfl rfl ?_
    refine r_getR (N := 4) dX3_numberAsRead_11 fwX3_18 (by first | rfl | assumption) (Nat.le_of_ble_eq_true rfl) rfl (by first | rfl | assumption) ?_
    refine r_iload_n dX3_numberAsRead_14 rfl rfl ?_
    refine r_iaload dX3_numberAsRead_15 (by first | rfl | assumption) (by exact vp_in_nI (by omega) (by decide)) ?_
    refine r_goto 24 dX3_numberAsRead_16 (by decide) ?_
    refine r_ireturn dX3_numberAsRead_24 rfl (Nat.zero_le _) (Nat.zero_le _) ?_
    rw [show (oI (some i)).toNatClampNeg = i from hcl, (h.2.2 i hi).2]
    exact ⟨rfl, rfl⟩
set_option maxHeartbeats 4000000 in
set_option maxRecDepth 100000 in
theorem m_reads {M : Mem} {d : DSt} {s : Nat} (h : DM M d) (ok : okD d) (hs : s < 32) : Gv mX6_reads [.ref 40, .int (nI s)] M (some (.int (rds d s))) M := by
  have g := m_plc h ok (s := s) (by omega)
  have hcs : (nI s).toNatClampNeg = s := nI_clamp (by omega)
  refine con_of (lv := [some (.ref 40), some (.int (nI s)), none]) (by decide) rfl (Nat.le_of_ble_eq_true rfl) (by simp [lvle]) ?_
  unfold rds
  cases hp : plc d s with
  | none =>
    rw [hp] at g
    refine r_aload_n dX6_reads_0 rfl rfl ?_
    refine r_iload_n dX6_reads_1 rfl rfl ?_
    refine gV1 (Y := mX6_placeOf) (ci := 6) (N := 35) dX6_reads_2 mlX6_177 vkX6_placeOf (by first | rfl | assumption) ⟨by decide, rfl⟩ rfl g ?_
    refine r_istore_n2 dX6_reads_5 rfl (Nat.le_of_ble_eq_true rfl) ?_
    refine r_iload_n dX6_reads_6 rfl rfl ?_
    refine r_iconst (-1) dX6_reads_7 (by decide) ?_
    refine r_icmp_ne 20 dX6_reads_8 (by decide) (fun c_8 => absurd rfl c_8) (fun c_8 => ?_)
    refine r_aload_n dX6_reads_11 rfl rfl ?_
    refine r_getR (N := 35) dX6_reads_12 fwX6_40 (by first | rfl | assumption) (Nat.le_of_ble_eq_true rfl) rfl (by first | rfl | assumption) ?_
    refine r_iload_n dX6_reads_15 rfl rfl ?_
    refine r_iaload dX6_reads_16 (by first | rfl | assumption) (by exact vp_in_nI hs (by decide)) ?_
    refine r_goto 26 dX6_reads_17 (by decide) ?_
    refine r_ireturn dX6_reads_26 rfl (Nat.zero_le _) (Nat.zero_le _) ?_
    rw [hcs, h.1 s hs]
    exact ⟨rfl, rfl⟩
  | some i =>
    rw [hp] at g
    have hi := (plc_some hp).1
    have u6 := ok.1
    have hcl : (nI i).toNatClampNeg = i := nI_clamp (by omega)
    refine r_aload_n dX6_reads_0 rfl rfl ?_
    refine r_iload_n dX6_reads_1 rfl rfl ?_
    refine gV1 (Y := mX6_placeOf) (ci := 6) (N := 35) dX6_reads_2 mlX6_177 vkX6_placeOf (by first | rfl | assumption) ⟨by decide, rfl⟩ rfl g ?_
    refine r_istore_n2 dX6_reads_5 rfl (Nat.le_of_ble_eq_true rfl) ?_
    refine r_iload_n dX6_reads_6 rfl rfl ?_
    refine r_iconst (-1) dX6_reads_7 (by decide) ?_
    refine r_icmp_ne 20 dX6_reads_8 (by decide) (fun c_8 => ?_) (fun c_8 => absurd c_8 (nI_ne_m1 (by omega)))
    refine r_aload_n dX6_reads_20 rfl rfl ?_
    refine r_getR (N := 35) dX6_reads_21 fwX6_46 (by first | rfl | assumption) (Nat.le_of_ble_eq_true rfl) rfl (by first | rfl | assumption) ?_
    refine r_iload_n dX6_reads_24 rfl rfl ?_
    refine r_iaload dX6_reads_25 (by first | rfl | assumption) (by exact vp_in_nI (by omega) (by decide)) ?_
    refine r_ireturn dX6_reads_26 rfl (Nat.zero_le _) (Nat.zero_le _) ?_
    rw [show (oI (some i)).toNatClampNeg = i from hcl, (h.2.2 i hi).2]
    exact ⟨rfl, rfl⟩
def shj {α : Type} (f : Nat → α) (i j : Nat) : Nat → α := fun q => if q < j then sh f i q else f q
theorem shj_up {f : Nat → Nat} {i j q : Nat} (hij : i ≤ j) (hq : q ≠ j) : shj f i (j + 1) q = shj f i j q := by
  unfold shj
  by_cases h : q < j
  · rw [if_pos h, if_pos (by omega)]
  · rw [if_neg h, if_neg (by omega)]
theorem shj_at {α : Type} {f : Nat → α} {i j : Nat} (hij : i ≤ j) : shj f i (j + 1) j = f (j + 1) := by
  unfold shj sh
  rw [if_pos (by omega), if_neg (by omega)]
theorem shj_up' {f : Nat → Int32} {i j q : Nat} (hij : i ≤ j) (hq : q ≠ j) : shj f i (j + 1) q = shj f i j q := by
  unfold shj
  by_cases h : q < j
  · rw [if_pos h, if_pos (by omega)]
  · rw [if_neg h, if_neg (by omega)]
theorem shj_i {α : Type} {f : Nat → α} {i q : Nat} : shj f i i q = f q := by
  unfold shj sh
  split <;> simp_all
theorem shj_l {α : Type} {f : Nat → α} {i j q : Nat} (h : q < j) : shj f i j q = sh f i q := if_pos h
theorem shj_h {α : Type} {f : Nat → α} {i j q : Nat} (h : ¬ q < j) : shj f i j q = f q := if_neg h
set_option maxHeartbeats 4000000 in
set_option maxRecDepth 100000 in
theorem x_rem_lp {M0 : Mem} {u i : Nat} {cs : Nat → Nat} {cn : Nat → Int32} (hu : u + 1 ≤ 6) (hi : i ≤ u) : ∀ (e j : Nat) (M : Mem), j + e = u → i ≤ j → M 14 3 = nI (u + 1) → (∀ q, q < u + 1 → M 16 q = nI (shj cs i j q) ∧ M 17 q = shj cn i j q) → FrS [16, 17] [(14, 3)] M0 M → ∃ M', WP mX3_removeFromCache 2 [some (.ref 14), none, some (.int (nI j))] [] 0 0 (shp, rfs, M) (fun r1 h1 => r1 = none ∧ h1 = (shp, rfs, M')) ∧ M' 14 3 = nI u ∧ (∀ q, q < u → M' 16 q = nI (sh cs i q) ∧ M' 17 q = sh cn i q) ∧ FrS [16, 17] [(14, 3)] M0 M' := by
  intro e
  induction e with
  | zero =>
    intro j M hj hij h3 h F
    have hj : j = u := by omega
    subst hj
    refine ⟨upd2 M 14 3 (nI j), ?_, u_ss, fun q hq => ?_, F.ups (by decide)⟩
    · refine r_iload_n dX3_removeFromCache_2 rfl rfl ?_
      refine r_aload_n dX3_removeFromCache_3 rfl rfl ?_
      refine r_getI (N := 4) dX3_removeFromCache_4 fwX3_28 (by first | rfl | assumption) (Nat.le_of_ble_eq_true rfl) rfl ?_
      refine r_iconst 1 dX3_removeFromCache_7 (by decide) ?_
      refine r_isub dX3_removeFromCache_8 ?_
      rw [h3, nI_m1]
      refine r_icmp_ge 46 dX3_removeFromCache_9 (by decide) (fun c_9 => ?_) (fun c_9 => absurd (nI_le (Nat.le_refl _) (by omega)) c_9)
      refine r_aload_n dX3_removeFromCache_46 rfl rfl ?_
      first | refine r_dupR dX3_removeFromCache_47 ?_ | refine r_dupI dX3_removeFromCache_47 ?_
      refine r_getI (N := 4) dX3_removeFromCache_48 fwX3_28 (by first | rfl | assumption) (Nat.le_of_ble_eq_true rfl) rfl ?_
      refine r_iconst 1 dX3_removeFromCache_51 (by decide) ?_
      refine r_isub dX3_removeFromCache_52 ?_
      refine r_putI (N := 4) dX3_removeFromCache_53 fwX3_28 (by first | rfl | assumption) (Nat.le_of_ble_eq_true rfl) rfl (Or.inl rfl) rfl rfl ?_
      refine r_return dX3_removeFromCache_56 rfl (Nat.zero_le _) (Nat.zero_le _) ?_
      rw [h3, nI_m1]
      exact ⟨rfl, rfl⟩
    · rw [u_nn (by decide), u_nn (by decide)]
      have := h q (by omega)
      rw [shj_l hq, shj_l hq] at this
      exact this
  | succ e ih =>
    intro j M hj hij h3 h F
    have c0 : (nI j).toNatClampNeg = j := nI_clamp (by omega)
    have c1 : (nI (j + 1)).toNatClampNeg = j + 1 := nI_clamp (by omega)
    have e1 : M 16 (j + 1) = nI (cs (j + 1)) := by rw [(h (j + 1) (by omega)).1, shj_h (by omega)]
    have e2 : M 17 (j + 1) = cn (j + 1) := by rw [(h (j + 1) (by omega)).2, shj_h (by omega)]
    obtain ⟨M', w, H', H2, F'⟩ := ih (j + 1) (upd2 (upd2 M 16 j (M 16 (j + 1))) 17 j (M 17 (j + 1))) (by omega) (by omega) (by rw [u_nn (by decide), u_nn (by decide)]; exact h3) (fun q hq => by
      rw [u_nn (show (16 : Nat) ≠ 17 by decide)]
      by_cases hqj : q = j
      · subst hqj
        rw [u_ss, u_ss, shj_at hij, shj_at hij, e1, e2]
        exact ⟨rfl, rfl⟩
      · rw [u_sn hqj, u_sn hqj, u_nn (by decide), shj_up hij hqj, shj_up' hij hqj]
        exact h q hq) ((F.upc (by decide)).upc (by decide))
    refine ⟨M', ?_, H', H2, F'⟩
    refine r_iload_n dX3_removeFromCache_2 rfl rfl ?_
    refine r_aload_n dX3_removeFromCache_3 rfl rfl ?_
    refine r_getI (N := 4) dX3_removeFromCache_4 fwX3_28 (by first | rfl | assumption) (Nat.le_of_ble_eq_true rfl) rfl ?_
    refine r_iconst 1 dX3_removeFromCache_7 (by decide) ?_
    refine r_isub dX3_removeFromCache_8 ?_
    rw [h3, nI_m1]
    refine r_icmp_ge 46 dX3_removeFromCache_9 (by decide) (fun c_9 => absurd c_9 (nI_ge (by omega) (by omega))) (fun c_9 => ?_)
    refine r_aload_n dX3_removeFromCache_12 rfl rfl ?_
    refine r_getR (N := 4) dX3_removeFromCache_13 fwX3_15 (by first | rfl | assumption) (Nat.le_of_ble_eq_true rfl) rfl (by first | rfl | assumption) ?_
    refine r_iload_n dX3_removeFromCache_16 rfl rfl ?_
    refine r_aload_n dX3_removeFromCache_17 rfl rfl ?_
    refine r_getR (N := 4) dX3_removeFromCache_18 fwX3_15 (by first | rfl | assumption) (Nat.le_of_ble_eq_true rfl) rfl (by first | rfl | assumption) ?_
    refine r_iload_n dX3_removeFromCache_21 rfl rfl ?_
    refine r_iconst 1 dX3_removeFromCache_22 (by decide) ?_
    refine r_iadd dX3_removeFromCache_23 ?_
    rw [nI_1]
    refine r_iaload dX3_removeFromCache_24 (by first | rfl | assumption) (by exact vp_in_nI (by omega) (by decide)) ?_
    rw [c1]
    refine r_iastore dX3_removeFromCache_25 (by first | rfl | assumption) (by exact vp_in_nI (by omega) (by decide)) ?_
    rw [c0]
    refine r_aload_n dX3_removeFromCache_26 rfl rfl ?_
    refine r_getR (N := 4) dX3_removeFromCache_27 fwX3_18 (by first | rfl | assumption) (Nat.le_of_ble_eq_true rfl) rfl (by first | rfl | assumption) ?_
    refine r_iload_n dX3_removeFromCache_30 rfl rfl ?_
    refine r_aload_n dX3_removeFromCache_31 rfl rfl ?_
    refine r_getR (N := 4) dX3_removeFromCache_32 fwX3_18 (by first | rfl | assumption) (Nat.le_of_ble_eq_true rfl) rfl (by first | rfl | assumption) ?_
    refine r_iload_n dX3_removeFromCache_35 rfl rfl ?_
    refine r_iconst 1 dX3_removeFromCache_36 (by decide) ?_
    refine r_iadd dX3_removeFromCache_37 ?_
    rw [nI_1]
    refine r_iaload dX3_removeFromCache_38 (by first | rfl | assumption) (by exact vp_in_nI (by omega) (by decide)) ?_
    rw [c1, u_nn (show (17 : Nat) ≠ 16 by decide)]
    refine r_iastore dX3_removeFromCache_39 (by first | rfl | assumption) (by exact vp_in_nI (by omega) (by decide)) ?_
    rw [c0]
    refine r_iinc_2 (_ + 1) dX3_removeFromCache_40 rfl (Nat.le_of_ble_eq_true rfl) rfl ?_
    refine r_goto 2 dX3_removeFromCache_43 (by decide) ?_
    rw [nI_1]
    exact w
set_option maxHeartbeats 4000000 in
set_option maxRecDepth 100000 in
theorem x_rem {M : Mem} {d : DSt} {i : Nat} (h : DC M d) (ok : okD d) (hi : i < d.2.1) : ∃ M', Gv mX3_removeFromCache [.ref 14, .int (nI i)] M none M' ∧ DC M' (rem d i) ∧ FrS [16, 17] [(14, 3)] M M' := by
  obtain ⟨u, hu⟩ : ∃ u, d.2.1 = u + 1 := ⟨d.2.1 - 1, by omega⟩
  have u6 := ok.1
  obtain ⟨M', w, H1, H2, F'⟩ := x_rem_lp (M0 := M) (u := u) (i := i) (cs := d.2.2.1) (cn := d.2.2.2) (by omega) (by omega) (u - i) i M (by omega) (Nat.le_refl _) (by rw [h.2.1, hu]) (fun q hq => by rw [shj_i, shj_i]; exact h.2.2 q (by omega)) FrS.rf
  refine ⟨M', ?_, ⟨fun j hj => ?_, ?_, fun j hj => ?_⟩, F'⟩
  · refine con_of (lv := [some (.ref 14), some (.int (nI i)), none]) (by decide) rfl (Nat.le_of_ble_eq_true rfl) (by simp [lvle]) ?_
    refine r_iload_n dX3_removeFromCache_0 rfl rfl ?_
    refine r_istore_n2 dX3_removeFromCache_1 rfl (Nat.le_of_ble_eq_true rfl) ?_
    exact r_weak (by simp [lvle] <;> (repeat' apply And.intro) <;> first | rfl | decide) w
  · rw [F' 15 j (by decide) (by simp)]; exact h.1 j hj
  · rw [H1]; show _ = nI (d.2.1 - 1); rw [hu]; rfl
  · have hj : j < d.2.1 - 1 := hj
    exact H2 j (by omega)
end
section
set_option maxHeartbeats 4000000 in
set_option maxRecDepth 100000 in
theorem m_leave_lp {M0 : Mem} {u i : Nat} {cs : Nat → Nat} {cn : Nat → Int32} (hu : u + 1 ≤ 6) (hi : i ≤ u) : ∀ (e j : Nat) (M : Mem), j + e = u → i ≤ j → M 40 18 = nI u → (∀ q, q < u + 1 → M 52 q = nI (shj cs i j q) ∧ M 53 q = shj cn i j q) → FrS [52, 53] [(40, 18)] M0 M → ∃ M', WP mX6_leave 12 [some (.ref 40), none, some (.int (nI j))] [] 0 0 (shp, rfs, M) (fun r1 h1 => r1 = none ∧ h1 = (shp, rfs, M')) ∧ M' 40 18 = nI u ∧ (∀ q, q < u → M' 52 q = nI (sh cs i q) ∧ M' 53 q = sh cn i q) ∧ FrS [52, 53] [(40, 18)] M0 M' := by
  intro e
  induction e with
  | zero =>
    intro j M hj hij h3 h F
    have hj : j = u := by omega
    subst hj
    refine ⟨M, ?_, h3, fun q hq => ?_, F⟩
    · refine r_iload_n dX6_leave_12 rfl rfl ?_
      refine r_aload_n dX6_leave_13 rfl rfl ?_
      refine r_getI (N := 35) dX6_leave_14 fwX6_171 (by first | rfl | assumption) (Nat.le_of_ble_eq_true rfl) rfl ?_
      refine r_icmp_ge 54 dX6_leave_17 (by decide) (fun c_17 => ?_) (fun c_17 => absurd (by rw [h3]; exact nI_le (Nat.le_refl _) (by omega)) c_17)
      refine r_return dX6_leave_54 rfl (Nat.zero_le _) (Nat.zero_le _) ?_
      exact ⟨rfl, rfl⟩
    · have := h q (by omega)
      rw [shj_l hq, shj_l hq] at this
      exact this
  | succ e ih =>
    intro j M hj hij h3 h F
    have c0 : (nI j).toNatClampNeg = j := nI_clamp (by omega)
    have c1 : (nI (j + 1)).toNatClampNeg = j + 1 := nI_clamp (by omega)
    have e1 : M 52 (j + 1) = nI (cs (j + 1)) := by rw [(h (j + 1) (by omega)).1, shj_h (by omega)]
    have e2 : M 53 (j + 1) = cn (j + 1) := by rw [(h (j + 1) (by omega)).2, shj_h (by omega)]
    obtain ⟨M', w, H', H2, F'⟩ := ih (j + 1) (upd2 (upd2 M 52 j (M 52 (j + 1))) 53 j (M 53 (j + 1))) (by omega) (by omega) (by rw [u_nn (by decide), u_nn (by decide)]; exact h3) (fun q hq => by
      rw [u_nn (show (52 : Nat) ≠ 53 by decide)]
      by_cases hqj : q = j
      · subst hqj
        rw [u_ss, u_ss, shj_at hij, shj_at hij, e1, e2]
        exact ⟨rfl, rfl⟩
      · rw [u_sn hqj, u_sn hqj, u_nn (by decide), shj_up hij hqj, shj_up' hij hqj]
        exact h q hq) ((F.upc (by decide)).upc (by decide))
    refine ⟨M', ?_, H', H2, F'⟩
    refine r_iload_n dX6_leave_12 rfl rfl ?_
    refine r_aload_n dX6_leave_13 rfl rfl ?_
    refine r_getI (N := 35) dX6_leave_14 fwX6_171 (by first | rfl | assumption) (Nat.le_of_ble_eq_true rfl) rfl ?_
    refine r_icmp_ge 54 dX6_leave_17 (by decide) (fun c_17 => absurd c_17 (by rw [h3]; exact nI_ge (by omega) (by omega))) (fun c_17 => ?_)
    refine r_aload_n dX6_leave_20 rfl rfl ?_
    refine r_getR (N := 35) dX6_leave_21 fwX6_43 (by first | rfl | assumption) (Nat.le_of_ble_eq_true rfl) rfl (by first | rfl | assumption) ?_
    refine r_iload_n dX6_leave_24 rfl rfl ?_
    refine r_aload_n dX6_leave_25 rfl rfl ?_
    refine r_getR (N := 35) dX6_leave_26 fwX6_43 (by first | rfl | assumption) (Nat.le_of_ble_eq_true rfl) rfl (by first | rfl | assumption) ?_
    refine r_iload_n dX6_leave_29 rfl rfl ?_
    refine r_iconst 1 dX6_leave_30 (by decide) ?_
    refine r_iadd dX6_leave_31 ?_
    rw [nI_1]
    refine r_iaload dX6_leave_32 (by first | rfl | assumption) (by exact vp_in_nI (by omega) (by decide)) ?_
    rw [c1]
    refine r_iastore dX6_leave_33 (by first | rfl | assumption) (by exact vp_in_nI (by omega) (by decide)) ?_
    rw [c0]
    refine r_aload_n dX6_leave_34 rfl rfl ?_
    refine r_getR (N := 35) dX6_leave_35 fwX6_46 (by first | rfl | assumption) (Nat.le_of_ble_eq_true rfl) rfl (by first | rfl | assumption) ?_
    refine r_iload_n dX6_leave_38 rfl rfl ?_
    refine r_aload_n dX6_leave_39 rfl rfl ?_
    refine r_getR (N := 35) dX6_leave_40 fwX6_46 (by first | rfl | assumption) (Nat.le_of_ble_eq_true rfl) rfl (by first | rfl | assumption) ?_
    refine r_iload_n dX6_leave_43 rfl rfl ?_
    refine r_iconst 1 dX6_leave_44 (by decide) ?_
    refine r_iadd dX6_leave_45 ?_
    rw [nI_1]
    refine r_iaload dX6_leave_46 (by first | rfl | assumption) (by exact vp_in_nI (by omega) (by decide)) ?_
    rw [c1, u_nn (show (53 : Nat) ≠ 52 by decide)]
    refine r_iastore dX6_leave_47 (by first | rfl | assumption) (by exact vp_in_nI (by omega) (by decide)) ?_
    rw [c0]
    refine r_iinc_2 (_ + 1) dX6_leave_48 rfl (Nat.le_of_ble_eq_true rfl) rfl ?_
    refine r_goto 12 dX6_leave_51 (by decide) ?_
    rw [nI_1]
    exact w
set_option maxHeartbeats 4000000 in
set_option maxRecDepth 100000 in
theorem m_leave {M : Mem} {d : DSt} {i : Nat} (h : DM M d) (ok : okD d) (hi : i < d.2.1) : ∃ M', Gv mX6_leave [.ref 40, .int (nI i)] M none M' ∧ DM M' (rem d i) ∧ FrS [52, 53] [(40, 18)] M M' := by
  obtain ⟨u, hu⟩ : ∃ u, d.2.1 = u + 1 := ⟨d.2.1 - 1, by omega⟩
  have u6 := ok.1
  have h18 : M 40 18 = nI (u + 1) := by rw [h.2.1, hu]
  obtain ⟨M', w, H1, H2, F'⟩ := m_leave_lp (M0 := M) (u := u) (i := i) (cs := d.2.2.1) (cn := d.2.2.2) (by omega) (by omega) (u - i) i (upd2 M 40 18 (nI u)) (by omega) (Nat.le_refl _) u_ss (fun q hq => by rw [shj_i, shj_i, u_nn (by decide), u_nn (by decide)]; exact h.2.2 q (by omega)) (FrS.rf.ups (by decide))
  refine ⟨M', ?_, ⟨fun j hj => ?_, ?_, fun j hj => ?_⟩, F'⟩
  · refine con_of (lv := [some (.ref 40), some (.int (nI i)), none]) (by decide) rfl (Nat.le_of_ble_eq_true rfl) (by simp [lvle]) ?_
    refine r_aload_n dX6_leave_0 rfl rfl ?_
    first | refine r_dupR dX6_leave_1 ?_ | refine r_dupI dX6_leave_1 ?_
    refine r_getI (N := 35) dX6_leave_2 fwX6_171 (by first | rfl | assumption) (Nat.le_of_ble_eq_true rfl) rfl ?_
    refine r_iconst 1 dX6_leave_5 (by decide) ?_
    refine r_isub dX6_leave_6 ?_
    rw [h18, nI_m1]
    refine r_putI (N := 35) dX6_leave_7 fwX6_171 (by first | rfl | assumption) (Nat.le_of_ble_eq_true rfl) rfl (Or.inl rfl) rfl rfl ?_
    refine r_iload_n dX6_leave_10 rfl rfl ?_
    refine r_istore_n2 dX6_leave_11 rfl (Nat.le_of_ble_eq_true rfl) ?_
    exact r_weak (by simp [lvle] <;> (repeat' apply And.intro) <;> first | rfl | decide) w
  · rw [F' 51 j (by decide) (by simp)]; exact h.1 j hj
  · rw [H1]; show _ = nI (d.2.1 - 1); rw [hu]; rfl
  · have hj : j < d.2.1 - 1 := hj
    exact H2 j (by omega)
theorem DM.put {M : Mem} {d : DSt} {s : Nat} {v : Int32} (h : DM M d) : DM (upd2 M 51 s v) (upd d.1 s v, d.2) := ⟨fun j hj => by
  by_cases hq : j = s
  · subst hq; rw [u_ss]; exact upd_s.symm
  · rw [u_sn hq, h.1 j hj]; exact (upd_n hq).symm, by rw [u_nn (by decide)]; exact h.2.1, fun j hj => by rw [u_nn (by decide), u_nn (by decide)]; exact h.2.2 j hj⟩
theorem DC.put {M : Mem} {d : DSt} {s : Nat} {v : Int32} (h : DC M d) : DC (upd2 M 15 s v) (upd d.1 s v, d.2) := ⟨fun j hj => by
  by_cases hq : j = s
  · subst hq; rw [u_ss]; exact upd_s.symm
  · rw [u_sn hq, h.1 j hj]; exact (upd_n hq).symm, by rw [u_nn (by decide)]; exact h.2.1, fun j hj => by rw [u_nn (by decide), u_nn (by decide)]; exact h.2.2 j hj⟩
set_option maxHeartbeats 4000000 in
set_option maxRecDepth 100000 in
theorem m_lay {M : Mem} {d : DSt} (h : DM M d) (ok : okD d) (hu : 0 < d.2.1) : ∃ M', Gv mX6_lay [.ref 40, .int 0] M none M' ∧ DM M' (rem (upd d.1 (d.2.2.1 0) (d.2.2.2 0), d.2.1, d.2.2.1, d.2.2.2) 0) ∧ FrS [51, 52, 53] [(40, 18)] M M' := by
  have hc : (nI (d.2.2.1 0)).toNatClampNeg = d.2.2.1 0 := nI_clamp (by have := ok.2 0 hu; omega)
  have u6 := ok.1
  obtain ⟨M', g, H, F⟩ := m_leave (M := upd2 M 51 (d.2.2.1 0) (d.2.2.2 0)) (d := (upd d.1 (d.2.2.1 0) (d.2.2.2 0), d.2.1, d.2.2.1, d.2.2.2)) (i := 0) h.put ok hu
  refine ⟨M', ?_, H, (FrS.rf.upc (by decide)).tr (F.mono (by decide) (by decide))⟩
  have e1 := (h.2.2 0 hu).1
  have e2 := (h.2.2 0 hu).2
  refine con_of (lv := [some (.ref 40), some (.int 0)]) (by decide) rfl (Nat.le_of_ble_eq_true rfl) (by simp [lvle]) ?_
  refine r_aload_n dX6_lay_0 rfl rfl ?_
  refine r_getR (N := 35) dX6_lay_1 fwX6_40 (by first | rfl | assumption) (Nat.le_of_ble_eq_true rfl) rfl (by first | rfl | assumption) ?_
  refine r_aload_n dX6_lay_4 rfl rfl ?_
  refine r_getR (N := 35) dX6_lay_5 fwX6_43 (by first | rfl | assumption) (Nat.le_of_ble_eq_true rfl) rfl (by first | rfl | assumption) ?_
  refine r_iload_n dX6_lay_8 rfl rfl ?_
  refine r_iaload dX6_lay_9 (by first | rfl | assumption) (by exact vp_in_nI (n := 0) (by decide) (by decide)) ?_
  rw [show ((0 : Int32).toNatClampNeg) = 0 from rfl, e1]
  refine r_aload_n dX6_lay_10 rfl rfl ?_
  refine r_getR (N := 35) dX6_lay_11 fwX6_46 (by first | rfl | assumption) (Nat.le_of_ble_eq_true rfl) rfl (by first | rfl | assumption) ?_
  refine r_iload_n dX6_lay_14 rfl rfl ?_
  refine r_iaload dX6_lay_15 (by first | rfl | assumption) (by exact vp_in_nI (n := 0) (by decide) (by decide)) ?_
  rw [show ((0 : Int32).toNatClampNeg) = 0 from rfl, e2]
  refine r_iastore dX6_lay_16 (by first | rfl | assumption) (by exact vp_in_nI (ok.2 0 hu) (by decide)) ?_
  rw [hc]
  refine r_aload_n dX6_lay_17 rfl rfl ?_
  refine r_iload_n dX6_lay_18 rfl rfl ?_
  refine gW1 (Y := mX6_leave) (ci := 6) (N := 35) dX6_lay_19 mlX6_174 vkX6_leave (by first | rfl | assumption) ⟨by decide, rfl⟩ rfl g ?_
  refine r_return dX6_lay_22 rfl (Nat.zero_le _) (Nat.zero_le _) ?_
  exact ⟨rfl, rfl⟩
set_option maxHeartbeats 4000000 in
set_option maxRecDepth 100000 in
theorem m_written {M : Mem} {d : DSt} {s : Nat} {v : Int32} (h : DM M d) (ok : okD d) (hs : s < 32) : ∃ M', Gv mX6_written [.ref 40, .int (nI s), .int v] M none M' ∧ DM M' (wrt d s v) ∧ FrS [51, 52, 53] [(40, 18)] M M' := by
  have g := m_plc h ok (s := s) (by omega)
  have u6 := ok.1
  unfold wrt
  cases hp : plc d s with
  | some i =>
    rw [hp] at g
    obtain ⟨hi, hcs⟩ := plc_some hp
    have hcl : (oI (some i)).toNatClampNeg = i := nI_clamp (by omega)
    refine ⟨upd2 M 53 i v, ?_, ⟨fun j hj => ?_, ?_, fun j hj => ?_⟩, FrS.rf.upc (by decide)⟩
    · refine con_of (lv := [some (.ref 40), some (.int (nI s)), some (.int v), none]) (by decide) rfl (Nat.le_of_ble_eq_true rfl) (by simp [lvle]) ?_
      refine r_aload_n dX6_written_0 rfl rfl ?_
      refine r_iload_n dX6_written_1 rfl rfl ?_
      refine gV1 (Y := mX6_placeOf) (ci := 6) (N := 35) dX6_written_2 mlX6_177 vkX6_placeOf (by first | rfl | assumption) ⟨by decide, rfl⟩ rfl g ?_
      refine r_istore_n3 dX6_written_5 rfl (Nat.le_of_ble_eq_true rfl) ?_
      refine r_iload_n dX6_written_6 rfl rfl ?_
      refine r_iconst (-1) dX6_written_7 (by decide) ?_
      refine r_icmp_eq 19 dX6_written_8 (by decide) (fun c_8 => absurd c_8 (nI_ne_m1 (by omega))) (fun c_8 => ?_)
      refine r_aload_n dX6_written_11 rfl rfl ?_
      refine r_getR (N := 35) dX6_written_12 fwX6_46 (by first | rfl | assumption) (Nat.le_of_ble_eq_true rfl) rfl (by first | rfl | assumption) ?_
      refine r_iload_n dX6_written_15 rfl rfl ?_
      refine r_iload_n dX6_written_16 rfl rfl ?_
      refine r_iastore dX6_written_17 (by first | rfl | assumption) (by exact vp_in_nI (by omega) (by decide)) ?_
      rw [hcl]
      refine r_return dX6_written_18 rfl (Nat.zero_le _) (Nat.zero_le _) ?_
      exact ⟨rfl, rfl⟩
    · rw [u_nn (by decide)]; exact h.1 j hj
    · rw [u_nn (by decide)]; exact h.2.1
    · rw [u_nn (by decide)]
      refine ⟨(h.2.2 j hj).1, ?_⟩
      by_cases hq : j = i
      · subst hq; rw [u_ss]; exact upd_s.symm
      · rw [u_sn hq, (h.2.2 j hj).2]; exact (upd_n hq).symm
  | none =>
    rw [hp] at g
    have key : ∃ M1, DM M1 (wr1 d) ∧ FrS [51, 52, 53] [(40, 18)] M M1 ∧ ∀ Q, WP mX6_written 33 [some (.ref 40), some (.int (nI s)), some (.int v), none] [] 0 0 (shp, rfs, M1) Q → WP mX6_written 19 [some (.ref 40), some (.int (nI s)), some (.int v), none] [] 0 0 (shp, rfs, M) Q := by
      by_cases h6 : d.2.1 = 6
      · obtain ⟨M1, g1, H1, F1⟩ := m_lay h ok (by omega)
        refine ⟨M1, by unfold wr1; rw [if_pos h6]; exact H1, F1, fun Q hq => ?_⟩
        refine r_aload_n dX6_written_19 rfl rfl ?_
        refine r_getI (N := 35) dX6_written_20 fwX6_171 (by first | rfl | assumption) (Nat.le_of_ble_eq_true rfl) rfl ?_
        refine r_bipush 6 dX6_written_23 (by decide) ?_
        rw [h.2.1, h6]
        refine r_icmp_ne 33 dX6_written_25 (by decide) (fun c_25 => absurd rfl c_25) (fun c_25 => ?_)
        refine r_aload_n dX6_written_28 rfl rfl ?_
        refine r_iconst 0 dX6_written_29 (by decide) ?_
        refine gW1 (Y := mX6_lay) (ci := 6) (N := 35) dX6_written_30 mlX6_180 vkX6_lay (by first | rfl | assumption) ⟨by decide, rfl⟩ rfl g1 ?_
        exact hq
      · refine ⟨M, by unfold wr1; rw [if_neg h6]; exact h, FrS.rf, fun Q hq => ?_⟩
        refine r_aload_n dX6_written_19 rfl rfl ?_
        refine r_getI (N := 35) dX6_written_20 fwX6_171 (by first | rfl | assumption) (Nat.le_of_ble_eq_true rfl) rfl ?_
        refine r_bipush 6 dX6_written_23 (by decide) ?_
        rw [h.2.1]
        refine r_icmp_ne 33 dX6_written_25 (by decide) (fun c_25 => ?_) (fun c_25 => absurd ((nI_eq (a := d.2.1) (b := 6) (by omega) (by decide)).mp c_25) h6)
        exact hq
    obtain ⟨M1, H1, F1, w1⟩ := key
    obtain ⟨ok1, u5⟩ := wr1_ok ok
    have hcl : (M1 40 18).toNatClampNeg = (wr1 d).2.1 := by rw [H1.2.1]; exact nI_clamp (by omega)
    refine ⟨upd2 (upd2 (upd2 M1 52 (wr1 d).2.1 (nI s)) 53 (wr1 d).2.1 v) 40 18 (nI ((wr1 d).2.1 + 1)), ?_, ⟨fun j hj => ?_, u_ss, fun j hj => ?_⟩, ((F1.upc (by decide)).upc (by decide)).ups (by decide)⟩
    · refine con_of (lv := [some (.ref 40), some (.int (nI s)), some (.int v), none]) (by decide) rfl (Nat.le_of_ble_eq_true rfl) (by simp [lvle]) ?_
      refine r_aload_n dX6_written_0 rfl rfl ?_
      refine r_iload_n dX6_written_1 rfl rfl ?_
      refine gV1 (Y := mX6_placeOf) (ci := 6) (N := 35) dX6_written_2 mlX6_177 vkX6_placeOf (by first | rfl | assumption) ⟨by decide, rfl⟩ rfl g ?_
      refine r_istore_n3 dX6_written_5 rfl (Nat.le_of_ble_eq_true rfl) ?_
      refine r_iload_n dX6_written_6 rfl rfl ?_
      refine r_iconst (-1) dX6_written_7 (by decide) ?_
      refine r_icmp_eq 19 dX6_written_8 (by decide) (fun c_8 => ?_) (fun c_8 => absurd rfl c_8)
      refine r_weak (by simp [lvle] <;> (repeat' apply And.intro) <;> first | rfl | decide) (w1 _ ?_)
      refine r_aload_n dX6_written_33 rfl rfl ?_
      refine r_getR (N := 35) dX6_written_34 fwX6_43 (by first | rfl | assumption) (Nat.le_of_ble_eq_true rfl) rfl (by first | rfl | assumption) ?_
      refine r_aload_n dX6_written_37 rfl rfl ?_
      refine r_getI (N := 35) dX6_written_38 fwX6_171 (by first | rfl | assumption) (Nat.le_of_ble_eq_true rfl) rfl ?_
      refine r_iload_n dX6_written_41 rfl rfl ?_
      refine r_iastore dX6_written_42 (by first | rfl | assumption) (by rw [H1.2.1]; exact vp_in_nI (by omega) (by decide)) ?_
      rw [hcl]
      refine r_aload_n dX6_written_43 rfl rfl ?_
      refine r_getR (N := 35) dX6_written_44 fwX6_46 (by first | rfl | assumption) (Nat.le_of_ble_eq_true rfl) rfl (by first | rfl | assumption) ?_
      refine r_aload_n dX6_written_47 rfl rfl ?_
      refine r_getI (N := 35) dX6_written_48 fwX6_171 (by first | rfl | assumption) (Nat.le_of_ble_eq_true rfl) rfl ?_
      refine r_iload_n dX6_written_51 rfl rfl ?_
      refine r_iastore dX6_written_52 (by first | rfl | assumption) (by rw [u_nn (by decide), H1.2.1]; exact vp_in_nI (by omega) (by decide)) ?_
      rw [u_nn (show (40 : Nat) ≠ 52 by decide), hcl]
      refine r_aload_n dX6_written_53 rfl rfl ?_
      first | refine r_dupR dX6_written_54 ?_ | refine r_dupI dX6_written_54 ?_
      refine r_getI (N := 35) dX6_written_55 fwX6_171 (by first | rfl | assumption) (Nat.le_of_ble_eq_true rfl) rfl ?_
      refine r_iconst 1 dX6_written_58 (by decide) ?_
      refine r_iadd dX6_written_59 ?_
      refine r_putI (N := 35) dX6_written_60 fwX6_171 (by first | rfl | assumption) (Nat.le_of_ble_eq_true rfl) rfl (Or.inl rfl) rfl rfl ?_
      refine r_return dX6_written_63 rfl (Nat.zero_le _) (Nat.zero_le _) ?_
      rw [u_nn (by decide), u_nn (by decide), H1.2.1, nI_1]
      exact ⟨rfl, rfl⟩
    · rw [u_nn (by decide), u_nn (by decide), u_nn (by decide)]; exact H1.1 j hj
    · have hj : j < (wr1 d).2.1 + 1 := hj
      rw [u_nn (show (52 : Nat) ≠ 40 by decide), u_nn (show (53 : Nat) ≠ 40 by decide), u_nn (show (52 : Nat) ≠ 53 by decide)]
      show _ = nI (va_up _ _ _ j) ∧ _ = upd _ _ _ j
      by_cases hq : j = (wr1 d).2.1
      · rw [hq, u_ss, u_ss, upd_s]
        simp [va_up]
      · rw [u_sn hq, u_sn hq, upd_n hq, u_nn (show (53 : Nat) ≠ 52 by decide)]
        simp only [va_up, if_neg hq]
        exact H1.2.2 j (by omega)
set_option maxHeartbeats 4000000 in
set_option maxRecDepth 100000 in
theorem m_through {M : Mem} {d : DSt} {s : Nat} {v : Int32} (h : DM M d) (ok : okD d) (hs : s < 32) : ∃ M', Gv mX6_through [.ref 40, .int (nI s), .int v] M none M' ∧ DM M' (thr d s v) ∧ FrS [51, 52, 53] [(40, 18)] M M' := by
  have g := m_plc h ok (s := s) (by omega)
  have u6 := ok.1
  have hcl : (nI s).toNatClampNeg = s := nI_clamp (by omega)
  unfold thr
  cases hp : plc d s with
  | some i =>
    rw [hp] at g
    obtain ⟨hi, hcs⟩ := plc_some hp
    obtain ⟨M1, g1, H1, F1⟩ := m_leave h ok hi
    refine ⟨upd2 M1 51 s v, ?_, H1.put, (F1.mono (by decide) (by decide)).upc (by decide)⟩
    refine con_of (lv := [some (.ref 40), some (.int (nI s)), some (.int v), none]) (by decide) rfl (Nat.le_of_ble_eq_true rfl) (by simp [lvle]) ?_
    refine r_aload_n dX6_through_0 rfl rfl ?_
    refine r_iload_n dX6_through_1 rfl rfl ?_
    refine gV1 (Y := mX6_placeOf) (ci := 6) (N := 35) dX6_through_2 mlX6_177 vkX6_placeOf (by first | rfl | assumption) ⟨by decide, rfl⟩ rfl g ?_
    refine r_istore_n3 dX6_through_5 rfl (Nat.le_of_ble_eq_true rfl) ?_
    refine r_iload_n dX6_through_6 rfl rfl ?_
    refine r_iconst (-1) dX6_through_7 (by decide) ?_
    refine r_icmp_eq 16 dX6_through_8 (by decide) (fun c_8 => absurd c_8 (nI_ne_m1 (by omega))) (fun c_8 => ?_)
    refine r_aload_n dX6_through_11 rfl rfl ?_
    refine r_iload_n dX6_through_12 rfl rfl ?_
    refine gW1 (Y := mX6_leave) (ci := 6) (N := 35) dX6_through_13 mlX6_174 vkX6_leave (by first | rfl | assumption) ⟨by decide, rfl⟩ rfl g1 ?_
    refine r_aload_n dX6_through_16 rfl rfl ?_
    refine r_getR (N := 35) dX6_through_17 fwX6_40 (by first | rfl | assumption) (Nat.le_of_ble_eq_true rfl) rfl (by first | rfl | assumption) ?_
    refine r_iload_n dX6_through_20 rfl rfl ?_
    refine r_iload_n dX6_through_21 rfl rfl ?_
    refine r_iastore dX6_through_22 (by first | rfl | assumption) (by exact vp_in_nI hs (by decide)) ?_
    rw [hcl]
    refine r_return dX6_through_23 rfl (Nat.zero_le _) (Nat.zero_le _) ?_
    exact ⟨rfl, rfl⟩
  | none =>
    rw [hp] at g
    refine ⟨upd2 M 51 s v, ?_, h.put, FrS.rf.upc (by decide)⟩
    refine con_of (lv := [some (.ref 40), some (.int (nI s)), some (.int v), none]) (by decide) rfl (Nat.le_of_ble_eq_true rfl) (by simp [lvle]) ?_
    refine r_aload_n dX6_through_0 rfl rfl ?_
    refine r_iload_n dX6_through_1 rfl rfl ?_
    refine gV1 (Y := mX6_placeOf) (ci := 6) (N := 35) dX6_through_2 mlX6_177 vkX6_placeOf (by first | rfl | assumption) ⟨by decide, rfl⟩ rfl g ?_
    refine r_istore_n3 dX6_through_5 rfl (Nat.le_of_ble_eq_true rfl) ?_
    refine r_iload_n dX6_through_6 rfl rfl ?_
    refine r_iconst (-1) dX6_through_7 (by decide) ?_
    refine r_icmp_eq 16 dX6_through_8 (by decide) (fun c_8 => ?_) (fun c_8 => absurd rfl c_8)
    refine r_aload_n dX6_through_16 rfl rfl ?_
    refine r_getR (N := 35) dX6_through_17 fwX6_40 (by first | rfl | assumption) (Nat.le_of_ble_eq_true rfl) rfl (by first | rfl | assumption) ?_
    refine r_iload_n dX6_through_20 rfl rfl ?_
    refine r_iload_n dX6_through_21 rfl rfl ?_
    refine r_iastore dX6_through_22 (by first | rfl | assumption) (by exact vp_in_nI hs (by decide)) ?_
    rw [hcl]
    refine r_return dX6_through_23 rfl (Nat.zero_le _) (Nat.zero_le _) ?_
    exact ⟨rfl, rfl⟩
set_option maxHeartbeats 4000000 in
set_option maxRecDepth 100000 in
theorem x_through {M : Mem} {d : DSt} {s : Nat} {v : Int32} (h : DC M d) (ok : okD d) (hs : s < 32) : ∃ M', Gv mX3_putThrough [.ref 14, .int (nI s), .int v] M none M' ∧ DC M' (thr d s v) ∧ FrS [15, 16, 17] [(14, 3)] M M' := by
  have g := x_plc h ok (s := s) (by omega)
  have u6 := ok.1
  unfold thr
  cases hp : plc d s with
  | some i =>
    rw [hp] at g
    obtain ⟨hi, hcs⟩ := plc_some hp
    obtain ⟨M1, g1, H1, F1⟩ := x_rem h ok hi
    refine ⟨upd2 M1 15 s v, ?_, H1.put, (F1.mono (by decide) (by decide)).upc (by decide)⟩
    refine con_of (lv := [some (.ref 14), some (.int (nI s)), some (.int v), none]) (by decide) rfl (Nat.le_of_ble_eq_true rfl) (by simp [lvle]) ?_
    refine r_aload_n dX3_putThrough_0 rfl rfl ?_
    refine r_iload_n dX3_putThrough_1 rfl rfl ?_
    refine gV1 (Y := mX3_placeInCache) (ci := 3) (N := 4) dX3_putThrough_2 mlX3_21 vkX3_placeInCache (by first | rfl | assumption) ⟨by decide, rfl⟩ rfl g ?_
    refine r_istore_n3 dX3_putThrough_5 rfl (Nat.le_of_ble_eq_true rfl) ?_
    refine r_iload_n dX3_putThrough_6 rfl rfl ?_
    refine r_if_lt 15 dX3_putThrough_7 (by decide) (fun c_7 => absurd c_7 (nI_pos (by omega))) (fun c_7 => ?_)
    refine r_aload_n dX3_putThrough_10 rfl rfl ?_
    refine r_iload_n dX3_putThrough_11 rfl rfl ?_
    refine gW1 (Y := mX3_removeFromCache) (ci := 3) (N := 4) dX3_putThrough_12 mlX3_36 vkX3_removeFromCache (by first | rfl | assumption) ⟨by decide, rfl⟩ rfl g1 ?_
    refine r_aload_n dX3_putThrough_15 rfl rfl ?_
    refine r_iload_n dX3_putThrough_16 rfl rfl ?_
    refine r_iload_n dX3_putThrough_17 rfl rfl ?_
    refine gW2 (Y := mX3_putOnDisk) (ci := 3) (N := 4) dX3_putThrough_18 mlX3_32 vkX3_putOnDisk (by first | rfl | assumption) ⟨by decide, rfl⟩ rfl (x_put hs) ?_
    refine r_return dX3_putThrough_21 rfl (Nat.zero_le _) (Nat.zero_le _) ?_
    exact ⟨rfl, rfl⟩
  | none =>
    rw [hp] at g
    refine ⟨upd2 M 15 s v, ?_, h.put, FrS.rf.upc (by decide)⟩
    refine con_of (lv := [some (.ref 14), some (.int (nI s)), some (.int v), none]) (by decide) rfl (Nat.le_of_ble_eq_true rfl) (by simp [lvle]) ?_
    refine r_aload_n dX3_putThrough_0 rfl rfl ?_
    refine r_iload_n dX3_putThrough_1 rfl rfl ?_
    refine gV1 (Y := mX3_placeInCache) (ci := 3) (N := 4) dX3_putThrough_2 mlX3_21 vkX3_placeInCache (by first | rfl | assumption) ⟨by decide, rfl⟩ rfl g ?_
    refine r_istore_n3 dX3_putThrough_5 rfl (Nat.le_of_ble_eq_true rfl) ?_
    refine r_iload_n dX3_putThrough_6 rfl rfl ?_
    refine r_if_lt 15 dX3_putThrough_7 (by decide) (fun c_7 => ?_) (fun c_7 => absurd (by decide) c_7)
    refine r_aload_n dX3_putThrough_15 rfl rfl ?_
    refine r_iload_n dX3_putThrough_16 rfl rfl ?_
    refine r_iload_n dX3_putThrough_17 rfl rfl ?_
    refine gW2 (Y := mX3_putOnDisk) (ci := 3) (N := 4) dX3_putThrough_18 mlX3_32 vkX3_putOnDisk (by first | rfl | assumption) ⟨by decide, rfl⟩ rfl (x_put hs) ?_
    refine r_return dX3_putThrough_21 rfl (Nat.zero_le _) (Nat.zero_le _) ?_
    exact ⟨rfl, rfl⟩
set_option maxHeartbeats 4000000 in
set_option maxRecDepth 100000 in
theorem x_putIn {M : Mem} {d : DSt} {s : Nat} {v : Int32} (h : DC M d) (ok : okD d) (hs : s < 32) : ∃ M', Gv mX3_putInCache [.ref 14, .int (nI s), .int v] M none M' ∧ DC M' (wrt d s v) ∧ FrS [15, 16, 17] [(14, 3)] M M' := by
  have g := x_plc h ok (s := s) (by omega)
  have u6 := ok.1
  unfold wrt
  cases hp : plc d s with
  | some i =>
    rw [hp] at g
    obtain ⟨hi, hcs⟩ := plc_some hp
    have hcl : (oI (some i)).toNatClampNeg = i := nI_clamp (by omega)
    refine ⟨upd2 (upd2 M 16 i (nI s)) 17 i v, ?_, ⟨fun j hj => ?_, ?_, fun j hj => ?_⟩, (FrS.rf.upc (by decide)).upc (by decide)⟩
    · refine con_of (lv := [some (.ref 14), some (.int (nI s)), some (.int v), none]) (by decide) rfl (Nat.le_of_ble_eq_true rfl) (by simp [lvle]) ?_
      refine r_aload_n dX3_putInCache_0 rfl rfl ?_
      refine r_iload_n dX3_putInCache_1 rfl rfl ?_
      refine gV1 (Y := mX3_placeInCache) (ci := 3) (N := 4) dX3_putInCache_2 mlX3_21 vkX3_placeInCache (by first | rfl | assumption) ⟨by decide, rfl⟩ rfl g ?_
      refine r_istore_n3 dX3_putInCache_5 rfl (Nat.le_of_ble_eq_true rfl) ?_
      refine r_iload_n dX3_putInCache_6 rfl rfl ?_
      refine r_if_ge 55 dX3_putInCache_7 (by decide) (fun c_7 => ?_) (fun c_7 => absurd (nI_pos' (n := i) (by omega)) c_7)
      refine r_aload_n dX3_putInCache_55 rfl rfl ?_
      refine r_getR (N := 4) dX3_putInCache_56 fwX3_15 (by first | rfl | assumption) (Nat.le_of_ble_eq_true rfl) rfl (by first | rfl | assumption) ?_
      refine r_iload_n dX3_putInCache_59 rfl rfl ?_
      refine r_iload_n dX3_putInCache_60 rfl rfl ?_
      refine r_iastore dX3_putInCache_61 (by first | rfl | assumption) (by exact vp_in_nI (by omega) (by decide)) ?_
      rw [hcl]
      refine r_aload_n dX3_putInCache_62 rfl rfl ?_
      refine r_getR (N := 4) dX3_putInCache_63 fwX3_18 (by first | rfl | assumption) (Nat.le_of_ble_eq_true rfl) rfl (by first | rfl | assumption) ?_
      refine r_iload_n dX3_putInCache_66 rfl rfl ?_
      refine r_iload_n dX3_putInCache_67 rfl rfl ?_
      refine r_iastore dX3_putInCache_68 (by first | rfl | assumption) (by exact vp_in_nI (by omega) (by decide)) ?_
      rw [hcl]
      refine r_return dX3_putInCache_69 rfl (Nat.zero_le _) (Nat.zero_le _) ?_
      exact ⟨rfl, rfl⟩
    · rw [u_nn (by decide), u_nn (by decide)]; exact h.1 j hj
    · rw [u_nn (by decide), u_nn (by decide)]; exact h.2.1
    · rw [u_nn (by decide)]
      by_cases hq : j = i
      · subst hq; rw [u_ss, u_ss, hcs]; exact ⟨rfl, upd_s.symm⟩
      · rw [u_sn hq, u_sn hq, u_nn (by decide), (h.2.2 j hj).2]; exact ⟨(h.2.2 j hj).1, (upd_n hq).symm⟩
  | none =>
    rw [hp] at g
    have key : ∃ M1, DC M1 (wr1 d) ∧ FrS [15, 16, 17] [(14, 3)] M M1 ∧ ∀ Q, WP mX3_putInCache 40 [some (.ref 14), some (.int (nI s)), some (.int v), none] [] 0 0 (shp, rfs, M1) Q → WP mX3_putInCache 10 [some (.ref 14), some (.int (nI s)), some (.int v), none] [] 0 0 (shp, rfs, M) Q := by
      by_cases h6 : d.2.1 = 6
      · have c0 := ok.2 0 (by omega)
        have e1 := (h.2.2 0 (by omega)).1
        have e2 := (h.2.2 0 (by omega)).2
        obtain ⟨M1, g1, H1, F1⟩ := x_rem (M := upd2 M 15 (d.2.2.1 0) (d.2.2.2 0)) (d := (upd d.1 (d.2.2.1 0) (d.2.2.2 0), d.2.1, d.2.2.1, d.2.2.2)) (i := 0) h.put ok (by show 0 < d.2.1; omega)
        refine ⟨M1, by unfold wr1; rw [if_pos h6]; exact H1, (FrS.rf.upc (by decide)).tr (F1.mono (by decide) (by decide)), fun Q hq => ?_⟩
        refine r_aload_n dX3_putInCache_10 rfl rfl ?_
        refine r_getI (N := 4) dX3_putInCache_11 fwX3_28 (by first | rfl | assumption) (Nat.le_of_ble_eq_true rfl) rfl ?_
        refine r_bipush 6 dX3_putInCache_14 (by decide) ?_
        rw [h.2.1, h6]
        refine r_icmp_lt 40 dX3_putInCache_16 (by decide) (fun c_16 => absurd c_16 (by decide)) (fun c_16 => ?_)
        refine r_aload_n dX3_putInCache_19 rfl rfl ?_
        refine r_aload_n dX3_putInCache_20 rfl rfl ?_
        refine r_getR (N := 4) dX3_putInCache_21 fwX3_15 (by first | rfl | assumption) (Nat.le_of_ble_eq_true rfl) rfl (by first | rfl | assumption) ?_
        refine r_iconst 0 dX3_putInCache_24 (by decide) ?_
        refine r_iaload dX3_putInCache_25 (by first | rfl | assumption) (by exact vp_in_nI (n := 0) (by decide) (by decide)) ?_
        rw [show ((0 : Int32).toNatClampNeg) = 0 from rfl, e1]
        refine r_aload_n dX3_putInCache_26 rfl rfl ?_
        refine r_getR (N := 4) dX3_putInCache_27 fwX3_18 (by first | rfl | assumption) (Nat.le_of_ble_eq_true rfl) rfl (by first | rfl | assumption) ?_
        refine r_iconst 0 dX3_putInCache_30 (by decide) ?_
        refine r_iaload dX3_putInCache_31 (by first | rfl | assumption) (by exact vp_in_nI (n := 0) (by decide) (by decide)) ?_
        rw [show ((0 : Int32).toNatClampNeg) = 0 from rfl, e2]
        refine gW2 (Y := mX3_putOnDisk) (ci := 3) (N := 4) dX3_putInCache_32 mlX3_32 vkX3_putOnDisk (by first | rfl | assumption) ⟨by decide, rfl⟩ rfl (x_put c0) ?_
        refine r_aload_n dX3_putInCache_35 rfl rfl ?_
        refine r_iconst 0 dX3_putInCache_36 (by decide) ?_
        refine gW1 (Y := mX3_removeFromCache) (ci := 3) (N := 4) dX3_putInCache_37 mlX3_36 vkX3_removeFromCache (by first | rfl | assumption) ⟨by decide, rfl⟩ rfl g1 ?_
        exact hq
      · refine ⟨M, by unfold wr1; rw [if_neg h6]; exact h, FrS.rf, fun Q hq => ?_⟩
        refine r_aload_n dX3_putInCache_10 rfl rfl ?_
        refine r_getI (N := 4) dX3_putInCache_11 fwX3_28 (by first | rfl | assumption) (Nat.le_of_ble_eq_true rfl) rfl ?_
        refine r_bipush 6 dX3_putInCache_14 (by decide) ?_
        rw [h.2.1]
        refine r_icmp_lt 40 dX3_putInCache_16 (by decide) (fun c_16 => ?_) (fun c_16 => absurd (nI_lt (a := d.2.1) (b := 6) (by omega) (by decide)) c_16)
        exact hq
    obtain ⟨M1, H1, F1, w1⟩ := key
    obtain ⟨ok1, u5⟩ := wr1_ok ok
    have hcl : (nI (wr1 d).2.1).toNatClampNeg = (wr1 d).2.1 := nI_clamp (by omega)
    refine ⟨upd2 (upd2 (upd2 M1 14 3 (nI ((wr1 d).2.1 + 1))) 16 (wr1 d).2.1 (nI s)) 17 (wr1 d).2.1 v, ?_, ⟨fun j hj => ?_, ?_, fun j hj => ?_⟩, ((F1.ups (by decide)).upc (by decide)).upc (by decide)⟩
    · refine con_of (lv := [some (.ref 14), some (.int (nI s)), some (.int v), none]) (by decide) rfl (Nat.le_of_ble_eq_true rfl) (by simp [lvle]) ?_
      refine r_aload_n dX3_putInCache_0 rfl rfl ?_
      refine r_iload_n dX3_putInCache_1 rfl rfl ?_
      refine gV1 (Y := mX3_placeInCache) (ci := 3) (N := 4) dX3_putInCache_2 mlX3_21 vkX3_placeInCache (by first | rfl | assumption) ⟨by decide, rfl⟩ rfl g ?_
      refine r_istore_n3 dX3_putInCache_5 rfl (Nat.le_of_ble_eq_true rfl) ?_
      refine r_iload_n dX3_putInCache_6 rfl rfl ?_
      refine r_if_ge 55 dX3_putInCache_7 (by decide) (fun c_7 => absurd c_7 (by decide)) (fun c_7 => ?_)
      refine r_weak (by simp [lvle] <;> (repeat' apply And.intro) <;> first | rfl | decide) (w1 _ ?_)
      refine r_aload_n dX3_putInCache_40 rfl rfl ?_
      refine r_getI (N := 4) dX3_putInCache_41 fwX3_28 (by first | rfl | assumption) (Nat.le_of_ble_eq_true rfl) rfl ?_
      rw [H1.2.1]
      refine r_istore_n3 dX3_putInCache_44 rfl (Nat.le_of_ble_eq_true rfl) ?_
      refine r_aload_n dX3_putInCache_45 rfl rfl ?_
      first | refine r_dupR dX3_putInCache_46 ?_ | refine r_dupI dX3_putInCache_46 ?_
      refine r_getI (N := 4) dX3_putInCache_47 fwX3_28 (by first | rfl | assumption) (Nat.le_of_ble_eq_true rfl) rfl ?_
      refine r_iconst 1 dX3_putInCache_50 (by decide) ?_
      refine r_iadd dX3_putInCache_51 ?_
      rw [H1.2.1, nI_1]
      refine r_putI (N := 4) dX3_putInCache_52 fwX3_28 (by first | rfl | assumption) (Nat.le_of_ble_eq_true rfl) rfl (Or.inl rfl) rfl rfl ?_
      refine r_aload_n dX3_putInCache_55 rfl rfl ?_
      refine r_getR (N := 4) dX3_putInCache_56 fwX3_15 (by first | rfl | assumption) (Nat.le_of_ble_eq_true rfl) rfl (by first | rfl | assumption) ?_
      refine r_iload_n dX3_putInCache_59 rfl rfl ?_
      refine r_iload_n dX3_putInCache_60 rfl rfl ?_
      refine r_iastore dX3_putInCache_61 (by first | rfl | assumption) (by exact vp_in_nI (by omega) (by decide)) ?_
      rw [hcl]
      refine r_aload_n dX3_putInCache_62 rfl rfl ?_
      refine r_getR (N := 4) dX3_putInCache_63 fwX3_18 (by first | rfl | assumption) (Nat.le_of_ble_eq_true rfl) rfl (by first | rfl | assumption) ?_
      refine r_iload_n dX3_putInCache_66 rfl rfl ?_
      refine r_iload_n dX3_putInCache_67 rfl rfl ?_
      refine r_iastore dX3_putInCache_68 (by first | rfl | assumption) (by exact vp_in_nI (by omega) (by decide)) ?_
      rw [hcl]
      refine r_return dX3_putInCache_69 rfl (Nat.zero_le _) (Nat.zero_le _) ?_
      exact ⟨rfl, rfl⟩
    · rw [u_nn (by decide), u_nn (by decide), u_nn (by decide)]; exact H1.1 j hj
    · rw [u_nn (by decide), u_nn (by decide), u_ss]
    · have hj : j < (wr1 d).2.1 + 1 := hj
      rw [u_nn (show (16 : Nat) ≠ 17 by decide)]
      show _ = nI (va_up _ _ _ j) ∧ _ = upd _ _ _ j
      by_cases hq : j = (wr1 d).2.1
      · rw [hq, u_ss, u_ss, upd_s]
        simp [va_up]
      · rw [u_sn hq, u_sn hq, upd_n hq, u_nn (by decide), u_nn (by decide), u_nn (by decide)]
        simp only [va_up, if_neg hq]
        exact H1.2.2 j (by omega)
set_option maxHeartbeats 4000000 in
set_option maxRecDepth 100000 in
theorem x_layAll_lp {M0 : Mem} {d : DSt} (h : DC M0 d) (ok : okD d) : ∀ (e k : Nat) (M : Mem), k + e = d.2.1 → (∀ j, j < 32 → M 15 j = lyd d.1 d.2.2.1 d.2.2.2 k j) → FrS [15] [] M0 M → ∃ M', WP mX3_layAll 2 [some (.ref 14), some (.int (nI k))] [] 0 0 (shp, rfs, M) (fun r1 h1 => r1 = none ∧ h1 = (shp, rfs, M')) ∧ DC M' (layD d) ∧ FrS [15] [(14, 3)] M0 M' := by
  have u6 := ok.1
  intro e
  induction e with
  | zero =>
    intro k M hk H F
    have hk : k = d.2.1 := by omega
    have h3 : M 14 3 = nI d.2.1 := by rw [F 14 3 (by decide) (by decide)]; exact h.2.1
    refine ⟨upd2 M 14 3 0, ?_, ⟨fun j hj => ?_, u_ss, fun j hj => absurd hj (by show ¬ j < 0; omega)⟩, (F.mono (by decide) (by decide)).ups (by decide)⟩
    · refine r_iload_n dX3_layAll_2 rfl rfl ?_
      refine r_aload_n dX3_layAll_3 rfl rfl ?_
      refine r_getI (N := 4) dX3_layAll_4 fwX3_28 (by first | rfl | assumption) (Nat.le_of_ble_eq_true rfl) rfl ?_
      refine r_icmp_ge 32 dX3_layAll_7 (by decide) (fun c_7 => ?_) (fun c_7 => absurd (by rw [h3]; exact nI_le (by omega) (by omega)) c_7)
      refine r_aload_n dX3_layAll_32 rfl rfl ?_
      refine r_iconst 0 dX3_layAll_33 (by decide) ?_
      refine r_putI (N := 4) dX3_layAll_34 fwX3_28 (by first | rfl | assumption) (Nat.le_of_ble_eq_true rfl) rfl (Or.inl rfl) rfl rfl ?_
      refine r_return dX3_layAll_37 rfl (Nat.zero_le _) (Nat.zero_le _) ?_
      exact ⟨rfl, rfl⟩
    · rw [u_nn (by decide), H j hj, hk]; rfl
  | succ e ih =>
    intro k M hk H F
    have h3 : M 14 3 = nI d.2.1 := by rw [F 14 3 (by decide) (by decide)]; exact h.2.1
    have hcl : (nI k).toNatClampNeg = k := nI_clamp (by omega)
    have e1 : M 16 k = nI (d.2.2.1 k) := by rw [F 16 k (by decide) (by simp)]; exact (h.2.2 k (by omega)).1
    have e2 : M 17 k = d.2.2.2 k := by rw [F 17 k (by decide) (by simp)]; exact (h.2.2 k (by omega)).2
    obtain ⟨M', w, H', F'⟩ := ih (k + 1) (upd2 M 15 (d.2.2.1 k) (d.2.2.2 k)) (by omega) (fun j hj => by
      show _ = upd _ _ _ j
      by_cases hq : j = d.2.2.1 k
      · rw [hq, u_ss, upd_s]
      · rw [u_sn hq, upd_n hq]; exact H j hj) (F.upc (by decide))
    refine ⟨M', ?_, H', F'⟩
    refine r_iload_n dX3_layAll_2 rfl rfl ?_
    refine r_aload_n dX3_layAll_3 rfl rfl ?_
    refine r_getI (N := 4) dX3_layAll_4 fwX3_28 (by first | rfl | assumption) (Nat.le_of_ble_eq_true rfl) rfl ?_
    refine r_icmp_ge 32 dX3_layAll_7 (by decide) (fun c_7 => absurd c_7 (by rw [h3]; exact nI_ge (by omega) (by omega))) (fun c_7 => ?_)
    refine r_aload_n dX3_layAll_10 rfl rfl ?_
    refine r_aload_n dX3_layAll_11 rfl rfl ?_
    refine r_getR (N := 4) dX3_layAll_12 fwX3_15 (by first | rfl | assumption) (Nat.le_of_ble_eq_true rfl) rfl (by first | rfl | assumption) ?_
    refine r_iload_n dX3_layAll_15 rfl rfl ?_
    refine r_iaload dX3_layAll_16 (by first | rfl | assumption) (by exact vp_in_nI (by omega) (by decide)) ?_
    rw [hcl, e1]
    refine r_aload_n dX3_layAll_17 rfl rfl ?_
    refine r_getR (N := 4) dX3_layAll_18 fwX3_18 (by first | rfl | assumption) (Nat.le_of_ble_eq_true rfl) rfl (by first | rfl | assumption) ?_
    refine r_iload_n dX3_layAll_21 rfl rfl ?_
    refine r_iaload dX3_layAll_22 (by first | rfl | assumption) (by exact vp_in_nI (by omega) (by decide)) ?_
    rw [hcl, e2]
    refine gW2 (Y := mX3_putOnDisk) (ci := 3) (N := 4) dX3_layAll_23 mlX3_32 vkX3_putOnDisk (by first | rfl | assumption) ⟨by decide, rfl⟩ rfl (x_put (ok.2 k (by omega))) ?_
    refine r_iinc_1 (_ + 1) dX3_layAll_26 rfl (Nat.le_of_ble_eq_true rfl) rfl ?_
    refine r_goto 2 dX3_layAll_29 (by decide) ?_
    rw [nI_1]
    exact w
set_option maxHeartbeats 4000000 in
set_option maxRecDepth 100000 in
theorem x_layAll {M : Mem} {d : DSt} (h : DC M d) (ok : okD d) : ∃ M', Gv mX3_layAll [.ref 14] M none M' ∧ DC M' (layD d) ∧ FrS [15] [(14, 3)] M M' := by
  obtain ⟨M', w, H', F'⟩ := x_layAll_lp h ok d.2.1 0 M (by omega) h.1 FrS.rf
  refine ⟨M', ?_, H', F'⟩
  refine con_of (lv := [some (.ref 14), none]) (by decide) rfl (Nat.le_of_ble_eq_true rfl) (by simp [lvle]) ?_
  refine r_iconst 0 dX3_layAll_0 (by decide) ?_
  refine r_istore_n1 dX3_layAll_1 rfl (Nat.le_of_ble_eq_true rfl) ?_
  exact w
set_option maxHeartbeats 4000000 in
set_option maxRecDepth 100000 in
theorem x_drop {M : Mem} : Gv mX3_dropCache [.ref 14] M (some (.int (M 14 3))) (upd2 M 14 3 0) := by
  refine con_of (lv := [some (.ref 14), none]) (by decide) rfl (Nat.le_of_ble_eq_true rfl) (by simp [lvle]) ?_
  refine r_aload_n dX3_dropCache_0 rfl rfl ?_
  refine r_getI (N := 4) dX3_dropCache_1 fwX3_28 (by first | rfl | assumption) (Nat.le_of_ble_eq_true rfl) rfl ?_
  refine r_istore_n1 dX3_dropCache_4 rfl (Nat.le_of_ble_eq_true rfl) ?_
  refine r_aload_n dX3_dropCache_5 rfl rfl ?_
  refine r_iconst 0 dX3_dropCache_6 (by decide) ?_
  refine r_putI (N := 4) dX3_dropCache_7 fwX3_28 (by first | rfl | assumption) (Nat.le_of_ble_eq_true rfl) rfl (Or.inl rfl) rfl rfl ?_
  refine r_iload_n dX3_dropCache_10 rfl rfl ?_
  refine r_ireturn dX3_dropCache_11 rfl (Nat.zero_le _) (Nat.zero_le _) ?_
  exact ⟨rfl, rfl⟩
set_option maxHeartbeats 4000000 in
set_option maxRecDepth 100000 in
theorem x_atPlace {M : Mem} {d : DSt} {x : Int32} (h : DC M d) (ok : okD d) : Gv mX3_sectorAtPlace [.ref 14, .int x] M (some (.int (if x < 0 then -2 else if nI d.2.1 ≤ x then -2 else nI (d.2.2.1 x.toNatClampNeg)))) M := by
  have u6 := ok.1
  refine con_of (lv := [some (.ref 14), some (.int x)]) (by decide) rfl (Nat.le_of_ble_eq_true rfl) (by simp [lvle]) ?_
  refine r_iload_n dX3_sectorAtPlace_0 rfl rfl ?_
  refine r_if_lt 21 dX3_sectorAtPlace_1 (by decide) (fun c_1 => ?_) (fun c_1 => ?_)
  · refine r_bipush (-2) dX3_sectorAtPlace_21 (by decide) ?_
    refine r_ireturn dX3_sectorAtPlace_23 rfl (Nat.zero_le _) (Nat.zero_le _) ?_
    refine ⟨?_, rfl⟩
    try rw [h.2.1] at c_9
    first | rw [if_pos c_1] | rw [if_neg c_1, if_pos c_9] | (rw [if_neg c_1, if_neg c_9]; obtain ⟨j, hj, hh, _⟩ := ix_of c_1 c_9 rfl u6 (by decide); rw [hh, nI_clamp (by omega), (h.2.2 j hj).1])
  · refine r_iload_n dX3_sectorAtPlace_4 rfl rfl ?_
    refine r_aload_n dX3_sectorAtPlace_5 rfl rfl ?_
    refine r_getI (N := 4) dX3_sectorAtPlace_6 fwX3_28 (by first | rfl | assumption) (Nat.le_of_ble_eq_true rfl) rfl ?_
    refine r_icmp_ge 21 dX3_sectorAtPlace_9 (by decide) (fun c_9 => ?_) (fun c_9 => ?_)
    · refine r_bipush (-2) dX3_sectorAtPlace_21 (by decide) ?_
      refine r_ireturn dX3_sectorAtPlace_23 rfl (Nat.zero_le _) (Nat.zero_le _) ?_
      refine ⟨?_, rfl⟩
      try rw [h.2.1] at c_9
      first | rw [if_pos c_1] | rw [if_neg c_1, if_pos c_9] | (rw [if_neg c_1, if_neg c_9]; obtain ⟨j, hj, hh, _⟩ := ix_of c_1 c_9 rfl u6 (by decide); rw [hh, nI_clamp (by omega), (h.2.2 j hj).1])
    · refine r_aload_n dX3_sectorAtPlace_12 rfl rfl ?_
      refine r_getR (N := 4) dX3_sectorAtPlace_13 fwX3_15 (by first | rfl | assumption) (Nat.le_of_ble_eq_true rfl) rfl (by first | rfl | assumption) ?_
      refine r_iload_n dX3_sectorAtPlace_16 rfl rfl ?_
      refine r_iaload dX3_sectorAtPlace_17 (by first | rfl | assumption) (by rw [h.2.1] at c_9; obtain ⟨j, _, _, hh⟩ := ix_of c_1 c_9 rfl u6 (by decide); exact hh) ?_
      refine r_goto 23 dX3_sectorAtPlace_18 (by decide) ?_
      refine r_ireturn dX3_sectorAtPlace_23 rfl (Nat.zero_le _) (Nat.zero_le _) ?_
      refine ⟨?_, rfl⟩
      try rw [h.2.1] at c_9
      first | rw [if_pos c_1] | rw [if_neg c_1, if_pos c_9] | (rw [if_neg c_1, if_neg c_9]; obtain ⟨j, hj, hh, _⟩ := ix_of c_1 c_9 rfl u6 (by decide); rw [hh, nI_clamp (by omega), (h.2.2 j hj).1])
theorem lyd_sh {dk : Nat → Int32} {cs : Nat → Nat} {cn : Nat → Int32} : ∀ k, lyd (upd dk (cs 0) (cn 0)) (sh cs 0) (sh cn 0) k = lyd dk cs cn (k + 1)
  | 0 => rfl
  | k + 1 => by
    show upd (lyd _ _ _ k) _ _ = upd (lyd dk cs cn (k + 1)) _ _
    rw [lyd_sh k]
    rfl
end
section
def isCm (c r : Nat) : Prop := shp[c]? = some (2, 8) ∧ rfs c 1 = some r ∧ shp[r]? = some (7, 4)
theorem isCm_t : ∀ t, t < 8 → isCm (24 + 2 * t) (25 + 2 * t)
  | 0, _ => ⟨rfl, rfl, rfl⟩
  | 1, _ => ⟨rfl, rfl, rfl⟩
  | 2, _ => ⟨rfl, rfl, rfl⟩
  | 3, _ => ⟨rfl, rfl, rfl⟩
  | 4, _ => ⟨rfl, rfl, rfl⟩
  | 5, _ => ⟨rfl, rfl, rfl⟩
  | 6, _ => ⟨rfl, rfl, rfl⟩
  | 7, _ => ⟨rfl, rfl, rfl⟩
  | n + 8, h => absurd h (by omega)
def pOrd (kd tg fi mn : Nat) (j : Nat) : Int32 := if j = 0 then 39 else if j = 1 then nI kd else if j = 2 then nI tg else if j = 3 then nI fi else nI mn
def pNum (tg : Nat) (x : Int32) (j : Nat) : Int32 := if j = 0 then 70 else if j = 1 then nI tg else nby x (j - 2)
def pAns (tg oc : Nat) (j : Nat) : Int32 := if j = 0 then 161 else if j = 1 then nI tg else nI oc
theorem pOrd_ok {kd tg fi mn : Nat} (h1 : kd < 256) (h2 : tg < 256) (h3 : fi < 256) (h4 : mn < 256) : okF (pOrd kd tg fi mn) 5 := ⟨by decide, by decide, fun j _ => by
  unfold pOrd
  split
  · exact (by decide : (39 : Int32) &&& 255 = 39)
  · split
    · exact okB_nI h1
    · split
      · exact okB_nI h2
      · split
        · exact okB_nI h3
        · exact okB_nI h4⟩
theorem pNum_ok {tg : Nat} {x : Int32} (h2 : tg < 256) : okF (pNum tg x) 6 := ⟨by decide, by decide, fun j _ => by
  unfold pNum
  split
  · exact (by decide : (70 : Int32) &&& 255 = 70)
  · split
    · exact okB_nI h2
    · exact nby_ok _ _⟩
theorem pAns_ok {tg oc : Nat} (h1 : oc < 256) (h2 : tg < 256) : okF (pAns tg oc) 3 := ⟨by decide, by decide, fun j _ => by
  unfold pAns
  split
  · exact (by decide : (161 : Int32) &&& 255 = 161)
  · split
    · exact okB_nI h2
    · exact okB_nI h1⟩
set_option maxHeartbeats 4000000 in
set_option maxRecDepth 100000 in
theorem x_lastS {c r : Nat} {M : Mem} (hc : isCm c r) : Gv mX2_lastSector [.ref c] M (some (.int (if M c 3 = 3 then 0 else M c 4 + M c 5 - 1))) M := by
  obtain ⟨hc1, hc2, hc3⟩ := hc
  refine con_of (lv := [some (.ref c)]) (by decide) rfl (Nat.le_of_ble_eq_true rfl) (by simp [lvle]) ?_
  refine r_aload_n dX2_lastSector_0 rfl rfl ?_
  refine r_getI (N := 8) dX2_lastSector_1 fwX2_22 (by first | rfl | assumption) (Nat.le_of_ble_eq_true rfl) rfl ?_
  refine r_iconst 3 dX2_lastSector_4 (by decide) ?_
  refine r_icmp_ne 12 dX2_lastSector_5 (by decide) (fun c_5 => ?_) (fun c_5 => ?_)
  · refine r_aload_n dX2_lastSector_12 rfl rfl ?_
    refine r_getI (N := 8) dX2_lastSector_13 fwX2_25 (by first | rfl | assumption) (Nat.le_of_ble_eq_true rfl) rfl ?_
    refine r_aload_n dX2_lastSector_16 rfl rfl ?_
    refine r_getI (N := 8) dX2_lastSector_17 fwX2_28 (by first | rfl | assumption) (Nat.le_of_ble_eq_true rfl) rfl ?_
    refine r_iadd dX2_lastSector_20 ?_
    refine r_iconst 1 dX2_lastSector_21 (by decide) ?_
    refine r_isub dX2_lastSector_22 ?_
    refine r_ireturn dX2_lastSector_23 rfl (Nat.zero_le _) (Nat.zero_le _) ?_
    refine ⟨?_, rfl⟩
    first | rw [if_pos c_5] | rw [if_neg c_5]
  · refine r_iconst 0 dX2_lastSector_8 (by decide) ?_
    refine r_goto 23 dX2_lastSector_9 (by decide) ?_
    refine r_ireturn dX2_lastSector_23 rfl (Nat.zero_le _) (Nat.zero_le _) ?_
    refine ⟨?_, rfl⟩
    first | rw [if_pos c_5] | rw [if_neg c_5]
set_option maxHeartbeats 4000000 in
set_option maxRecDepth 100000 in
theorem x_numAt {c r j : Nat} {M : Mem} (hc : isCm c r) (hj : j < 4) : Gv mX2_numberAt [.ref c, .int (nI j)] M (some (.int (M r j))) M := by
  obtain ⟨hc1, hc2, hc3⟩ := hc
  have hcl : (nI j).toNatClampNeg = j := nI_clamp (by omega)
  refine con_of (lv := [some (.ref c), some (.int (nI j))]) (by decide) rfl (Nat.le_of_ble_eq_true rfl) (by simp [lvle]) ?_
  refine r_iload_n dX2_numberAt_0 rfl rfl ?_
  refine r_if_lt 22 dX2_numberAt_1 (by decide) (fun c_1 => absurd c_1 (nI_pos (by omega))) (fun c_1 => ?_)
  refine r_iload_n dX2_numberAt_4 rfl rfl ?_
  refine r_aload_n dX2_numberAt_5 rfl rfl ?_
  refine r_getR (N := 8) dX2_numberAt_6 fwX2_9 (by first | rfl | assumption) (Nat.le_of_ble_eq_true rfl) rfl (by first | rfl | assumption) ?_
  refine r_alen dX2_numberAt_9 (by first | rfl | assumption) (by first | exact Or.inl rfl | exact Or.inr rfl) ?_
  refine r_icmp_ge 22 dX2_numberAt_10 (by decide) (fun c_10 => absurd c_10 (nI_ge hj (by decide))) (fun c_10 => ?_)
  refine r_aload_n dX2_numberAt_13 rfl rfl ?_
  refine r_getR (N := 8) dX2_numberAt_14 fwX2_9 (by first | rfl | assumption) (Nat.le_of_ble_eq_true rfl) rfl (by first | rfl | assumption) ?_
  refine r_iload_n dX2_numberAt_17 rfl rfl ?_
  refine r_iaload dX2_numberAt_18 (by first | rfl | assumption) (by exact vp_in_nI hj (by decide)) ?_
  refine r_goto 23 dX2_numberAt_19 (by decide) ?_
  refine r_ireturn dX2_numberAt_23 rfl (Nat.zero_le _) (Nat.zero_le _) ?_
  rw [hcl]
  exact ⟨rfl, rfl⟩
set_option maxHeartbeats 4000000 in
set_option maxRecDepth 100000 in
theorem x_setNum {c r j : Nat} {x : Int32} {M : Mem} (hc : isCm c r) (hj : j < 4) : Gv mX2_setNumber [.ref c, .int (nI j), .int x] M none (upd2 M r j x) := by
  obtain ⟨hc1, hc2, hc3⟩ := hc
  have hcl : (nI j).toNatClampNeg = j := nI_clamp (by omega)
  refine con_of (lv := [some (.ref c), some (.int (nI j)), some (.int x)]) (by decide) rfl (Nat.le_of_ble_eq_true rfl) (by simp [lvle]) ?_
  refine r_iload_n dX2_setNumber_0 rfl rfl ?_
  refine r_if_lt 20 dX2_setNumber_1 (by decide) (fun c_1 => absurd c_1 (nI_pos (by omega))) (fun c_1 => ?_)
  refine r_iload_n dX2_setNumber_4 rfl rfl ?_
  refine r_aload_n dX2_setNumber_5 rfl rfl ?_
  refine r_getR (N := 8) dX2_setNumber_6 fwX2_9 (by first | rfl | assumption) (Nat.le_of_ble_eq_true rfl) rfl (by first | rfl | assumption) ?_
  refine r_alen dX2_setNumber_9 (by first | rfl | assumption) (by first | exact Or.inl rfl | exact Or.inr rfl) ?_
  refine r_icmp_ge 20 dX2_setNumber_10 (by decide) (fun c_10 => absurd c_10 (nI_ge hj (by decide))) (fun c_10 => ?_)
  refine r_aload_n dX2_setNumber_13 rfl rfl ?_
  refine r_getR (N := 8) dX2_setNumber_14 fwX2_9 (by first | rfl | assumption) (Nat.le_of_ble_eq_true rfl) rfl (by first | rfl | assumption) ?_
  refine r_iload_n dX2_setNumber_17 rfl rfl ?_
  refine r_iload_n dX2_setNumber_18 rfl rfl ?_
  refine r_iastore dX2_setNumber_19 (by first | rfl | assumption) (by exact vp_in_nI hj (by decide)) ?_
  rw [hcl]
  refine r_return dX2_setNumber_20 rfl (Nat.zero_le _) (Nat.zero_le _) ?_
  exact ⟨rfl, rfl⟩
set_option maxHeartbeats 4000000 in
set_option maxRecDepth 100000 in
theorem x_setOrder {c r kd tg fi mn : Nat} {M : Mem} (hc : isCm c r) (hne : c ∉ [20, 21]) (e0 : M c 0 = nI tg) (e3 : M c 3 = nI kd) (e4 : M c 4 = nI fi) (e5 : M c 5 = nI mn) (h1 : kd < 256) (h2 : tg < 256) (h3 : fi < 256) (h4 : mn < 256) : ∃ M', Gv mX0_setOrder [.ref 20, .ref c] M none M' ∧ HB M' 20 21 5 (pOrd kd tg fi mn) ∧ Fr [20, 21] M M' := by
  obtain ⟨hc1, hc2, hc3⟩ := hc
  obtain ⟨M0, g0, H0, F0⟩ := b_clearX (M := M) isBy20 (pOrd kd tg fi mn)
  obtain ⟨M1, g1, H1, F1⟩ := b_addX (x := 39) isBy20 H0 (by decide) rfl
  have t1 := F0.tr F1 (ex'' := [20, 21]) (fun _ q => q) (fun _ q => q)
  obtain ⟨M2, g2, H2, F2⟩ := b_addX (x := nI kd) isBy20 H1 (by decide) (okB_nI h1).symm
  have t2 := t1.tr F2 (ex'' := [20, 21]) (fun _ q => q) (fun _ q => q)
  obtain ⟨M3, g3, H3, F3⟩ := b_addX (x := nI tg) isBy20 H2 (by decide) (okB_nI h2).symm
  have t3 := t2.tr F3 (ex'' := [20, 21]) (fun _ q => q) (fun _ q => q)
  obtain ⟨M4, g4, H4, F4⟩ := b_addX (x := nI fi) isBy20 H3 (by decide) (okB_nI h3).symm
  have t4 := t3.tr F4 (ex'' := [20, 21]) (fun _ q => q) (fun _ q => q)
  obtain ⟨M5, g5, H5, F5⟩ := b_addX (x := nI mn) isBy20 H4 (by decide) (okB_nI h4).symm
  refine ⟨M5, ?_, H5, t4.tr F5 (fun _ q => q) (fun _ q => q)⟩
  refine con_of (lv := [some (.ref 20), some (.ref c)]) (by decide) rfl (Nat.le_of_ble_eq_true rfl) (by simp [lvle]) ?_
  refine r_aload_n dX0_setOrder_0 rfl rfl ?_
  refine gW0 (Y := mX0_clear) (ci := 0) (N := 2) dX0_setOrder_1 mlX0_23 vkX0_clear (by first | rfl | assumption) ⟨by decide, rfl⟩ rfl g0 ?_
  refine r_aload_n dX0_setOrder_4 rfl rfl ?_
  refine r_bipush 39 dX0_setOrder_5 (by decide) ?_
  refine gW1 (Y := mX0_add) (ci := 0) (N := 2) dX0_setOrder_7 mlX0_19 vkX0_add (by first | rfl | assumption) ⟨by decide, rfl⟩ rfl g1 ?_
  refine r_aload_n dX0_setOrder_10 rfl rfl ?_
  refine r_aload_n dX0_setOrder_11 rfl rfl ?_
  refine r_getI (N := 8) dX0_setOrder_12 fwX0_30 (by first | rfl | assumption) (Nat.le_of_ble_eq_true rfl) rfl ?_
  refine gW1 (Y := mX0_add) (ci := 0) (N := 2) dX0_setOrder_15 mlX0_19 vkX0_add (by first | rfl | assumption) ⟨by decide, rfl⟩ rfl (by rw [t1 c hne, e3]; exact g2) ?_
  refine r_aload_n dX0_setOrder_18 rfl rfl ?_
  refine r_aload_n dX0_setOrder_19 rfl rfl ?_
  refine r_getI (N := 8) dX0_setOrder_20 fwX0_35 (by first | rfl | assumption) (Nat.le_of_ble_eq_true rfl) rfl ?_
  refine gW1 (Y := mX0_add) (ci := 0) (N := 2) dX0_setOrder_23 mlX0_19 vkX0_add (by first | rfl | assumption) ⟨by decide, rfl⟩ rfl (by rw [t2 c hne, e0]; exact g3) ?_
  refine r_aload_n dX0_setOrder_26 rfl rfl ?_
  refine r_aload_n dX0_setOrder_27 rfl rfl ?_
  refine r_getI (N := 8) dX0_setOrder_28 fwX0_38 (by first | rfl | assumption) (Nat.le_of_ble_eq_true rfl) rfl ?_
  refine gW1 (Y := mX0_add) (ci := 0) (N := 2) dX0_setOrder_31 mlX0_19 vkX0_add (by first | rfl | assumption) ⟨by decide, rfl⟩ rfl (by rw [t3 c hne, e4]; exact g4) ?_
  refine r_aload_n dX0_setOrder_34 rfl rfl ?_
  refine r_aload_n dX0_setOrder_35 rfl rfl ?_
  refine r_getI (N := 8) dX0_setOrder_36 fwX0_41 (by first | rfl | assumption) (Nat.le_of_ble_eq_true rfl) rfl ?_
  refine gW1 (Y := mX0_add) (ci := 0) (N := 2) dX0_setOrder_39 mlX0_19 vkX0_add (by first | rfl | assumption) ⟨by decide, rfl⟩ rfl (by rw [t4 c hne, e5]; exact g5) ?_
  refine r_return dX0_setOrder_42 rfl (Nat.zero_le _) (Nat.zero_le _) ?_
  exact ⟨rfl, rfl⟩
set_option maxHeartbeats 4000000 in
set_option maxRecDepth 100000 in
theorem x_setNumber {tg : Nat} {x : Int32} {M : Mem} (h2 : tg < 256) : ∃ M', Gv mX0_setNumber [.ref 20, .int (nI tg), .int x] M none M' ∧ HB M' 20 21 6 (pNum tg x) ∧ Fr [20, 21] M M' := by
  obtain ⟨M0, g0, H0, F0⟩ := b_clearX (M := M) isBy20 (pNum tg x)
  obtain ⟨M1, g1, H1, F1⟩ := b_addX (x := 70) isBy20 H0 (by decide) rfl
  have t1 := F0.tr F1 (ex'' := [20, 21]) (fun _ q => q) (fun _ q => q)
  obtain ⟨M2, g2, H2, F2⟩ := b_addX (x := nI tg) isBy20 H1 (by decide) (okB_nI h2).symm
  have t2 := t1.tr F2 (ex'' := [20, 21]) (fun _ q => q) (fun _ q => q)
  obtain ⟨M3, g3, H3, F3⟩ := b_addNumberX (x := x) isBy20 H2 (by decide) (fun q hq => by
    show pNum tg x (2 + q) = nby x q
    unfold pNum
    rw [if_neg (by omega), if_neg (by omega), show 2 + q - 2 = q by omega])
  refine ⟨M3, ?_, H3, t2.tr F3 (fun _ q => q) (fun _ q => q)⟩
  refine con_of (lv := [some (.ref 20), some (.int (nI tg)), some (.int x)]) (by decide) rfl (Nat.le_of_ble_eq_true rfl) (by simp [lvle]) ?_
  refine r_aload_n dX0_setNumber_0 rfl rfl ?_
  refine gW0 (Y := mX0_clear) (ci := 0) (N := 2) dX0_setNumber_1 mlX0_23 vkX0_clear (by first | rfl | assumption) ⟨by decide, rfl⟩ rfl g0 ?_
  refine r_aload_n dX0_setNumber_4 rfl rfl ?_
  refine r_bipush 70 dX0_setNumber_5 (by decide) ?_
  refine gW1 (Y := mX0_add) (ci := 0) (N := 2) dX0_setNumber_7 mlX0_19 vkX0_add (by first | rfl | assumption) ⟨by decide, rfl⟩ rfl g1 ?_
  refine r_aload_n dX0_setNumber_10 rfl rfl ?_
  refine r_iload_n dX0_setNumber_11 rfl rfl ?_
  refine gW1 (Y := mX0_add) (ci := 0) (N := 2) dX0_setNumber_12 mlX0_19 vkX0_add (by first | rfl | assumption) ⟨by decide, rfl⟩ rfl g2 ?_
  refine r_aload_n dX0_setNumber_15 rfl rfl ?_
  refine r_iload_n dX0_setNumber_16 rfl rfl ?_
  refine gW1 (Y := mX0_addNumber) (ci := 0) (N := 2) dX0_setNumber_17 mlX0_44 vkX0_addNumber (by first | rfl | assumption) ⟨by decide, rfl⟩ rfl g3 ?_
  refine r_return dX0_setNumber_20 rfl (Nat.zero_le _) (Nat.zero_le _) ?_
  exact ⟨rfl, rfl⟩
set_option maxHeartbeats 4000000 in
set_option maxRecDepth 100000 in
theorem x_setAnswer {tg oc : Nat} {M : Mem} (h1 : oc < 256) (h2 : tg < 256) : ∃ M', Gv mX0_setAnswer [.ref 20, .int (nI tg), .int (nI oc)] M none M' ∧ HB M' 20 21 3 (pAns tg oc) ∧ Fr [20, 21] M M' := by
  obtain ⟨M0, g0, H0, F0⟩ := b_clearX (M := M) isBy20 (pAns tg oc)
  obtain ⟨M1, g1, H1, F1⟩ := b_addX (x := 161) isBy20 H0 (by decide) rfl
  have t1 := F0.tr F1 (ex'' := [20, 21]) (fun _ q => q) (fun _ q => q)
  obtain ⟨M2, g2, H2, F2⟩ := b_addX (x := nI tg) isBy20 H1 (by decide) (okB_nI h2).symm
  have t2 := t1.tr F2 (ex'' := [20, 21]) (fun _ q => q) (fun _ q => q)
  obtain ⟨M3, g3, H3, F3⟩ := b_addX (x := nI oc) isBy20 H2 (by decide) (okB_nI h1).symm
  refine ⟨M3, ?_, H3, t2.tr F3 (fun _ q => q) (fun _ q => q)⟩
  refine con_of (lv := [some (.ref 20), some (.int (nI tg)), some (.int (nI oc))]) (by decide) rfl (Nat.le_of_ble_eq_true rfl) (by simp [lvle]) ?_
  refine r_aload_n dX0_setAnswer_0 rfl rfl ?_
  refine gW0 (Y := mX0_clear) (ci := 0) (N := 2) dX0_setAnswer_1 mlX0_23 vkX0_clear (by first | rfl | assumption) ⟨by decide, rfl⟩ rfl g0 ?_
  refine r_aload_n dX0_setAnswer_4 rfl rfl ?_
  refine r_sipush 161 dX0_setAnswer_5 (by decide) ?_
  refine gW1 (Y := mX0_add) (ci := 0) (N := 2) dX0_setAnswer_8 mlX0_19 vkX0_add (by first | rfl | assumption) ⟨by decide, rfl⟩ rfl g1 ?_
  refine r_aload_n dX0_setAnswer_11 rfl rfl ?_
  refine r_iload_n dX0_setAnswer_12 rfl rfl ?_
  refine gW1 (Y := mX0_add) (ci := 0) (N := 2) dX0_setAnswer_13 mlX0_19 vkX0_add (by first | rfl | assumption) ⟨by decide, rfl⟩ rfl g2 ?_
  refine r_aload_n dX0_setAnswer_16 rfl rfl ?_
  refine r_iload_n dX0_setAnswer_17 rfl rfl ?_
  refine gW1 (Y := mX0_add) (ci := 0) (N := 2) dX0_setAnswer_18 mlX0_19 vkX0_add (by first | rfl | assumption) ⟨by decide, rfl⟩ rfl g3 ?_
  refine r_return dX0_setAnswer_21 rfl (Nat.zero_le _) (Nat.zero_le _) ?_
  exact ⟨rfl, rfl⟩
set_option maxHeartbeats 4000000 in
set_option maxRecDepth 100000 in
theorem m_three {tg oc : Nat} {M : Mem} : ∃ M', Gv mX6_three [.ref 40, .int 161, .int (nI tg), .int (nI oc)] M none M' ∧ HP M' 3 (pAns tg oc) ∧ FrS [49] [(40, 14)] M M' := by
  refine ⟨upd2 (upd2 (upd2 (upd2 M 40 14 3) 49 0 161) 49 1 (nI tg)) 49 2 (nI oc), ?_, ⟨by rw [u_nn (by decide), u_nn (by decide), u_nn (by decide), u_ss]; rfl, fun j hj => ?_⟩, (((FrS.rf.ups (by decide)).upc (by decide)).upc (by decide)).upc (by decide)⟩
  · refine con_of (lv := [some (.ref 40), some (.int 161), some (.int (nI tg)), some (.int (nI oc))]) (by decide) rfl (Nat.le_of_ble_eq_true rfl) (by simp [lvle]) ?_
    refine r_aload_n dX6_three_0 rfl rfl ?_
    refine r_iconst 3 dX6_three_1 (by decide) ?_
    refine r_putI (N := 35) dX6_three_2 fwX6_125 (by first | rfl | assumption) (Nat.le_of_ble_eq_true rfl) rfl (Or.inl rfl) rfl rfl ?_
    refine r_aload_n dX6_three_5 rfl rfl ?_
    refine r_getR (N := 35) dX6_three_6 fwX6_34 (by first | rfl | assumption) (Nat.le_of_ble_eq_true rfl) rfl (by first | rfl | assumption) ?_
    refine r_iconst 0 dX6_three_9 (by decide) ?_
    refine r_iload_n dX6_three_10 rfl rfl ?_
    refine r_iastore dX6_three_11 (by first | rfl | assumption) (by exact vp_in_nI (n := 0) (by decide) (by decide)) ?_
    refine r_aload_n dX6_three_12 rfl rfl ?_
    refine r_getR (N := 35) dX6_three_13 fwX6_34 (by first | rfl | assumption) (Nat.le_of_ble_eq_true rfl) rfl (by first | rfl | assumption) ?_
    refine r_iconst 1 dX6_three_16 (by decide) ?_
    refine r_iload_n dX6_three_17 rfl rfl ?_
    refine r_iastore dX6_three_18 (by first | rfl | assumption) (by exact vp_in_nI (n := 1) (by decide) (by decide)) ?_
    refine r_aload_n dX6_three_19 rfl rfl ?_
    refine r_getR (N := 35) dX6_three_20 fwX6_34 (by first | rfl | assumption) (Nat.le_of_ble_eq_true rfl) rfl (by first | rfl | assumption) ?_
    refine r_iconst 2 dX6_three_23 (by decide) ?_
    refine r_iload_n dX6_three_24 rfl rfl ?_
    refine r_iastore dX6_three_25 (by first | rfl | assumption) (by exact vp_in_nI (n := 2) (by decide) (by decide)) ?_
    refine r_return dX6_three_26 rfl (Nat.zero_le _) (Nat.zero_le _) ?_
    exact ⟨rfl, rfl⟩
  · have : j = 0 ∨ j = 1 ∨ j = 2 := by omega
    rcases this with rfl | rfl | rfl
    · rw [u_sn (by decide), u_sn (by decide), u_ss]; rfl
    · rw [u_sn (by decide), u_ss]; rfl
    · rw [u_ss]; rfl
set_option maxHeartbeats 4000000 in
set_option maxRecDepth 100000 in
theorem m_number {tg : Nat} {x : Int32} {M : Mem} : ∃ M', Gv mX6_number [.ref 40, .int (nI tg), .int x] M none M' ∧ HP M' 6 (pNum tg x) ∧ FrS [49] [(40, 14)] M M' := by
  refine ⟨upd2 (upd2 (upd2 (upd2 (upd2 (upd2 (upd2 M 40 14 6) 49 0 70) 49 1 (nI tg)) 49 2 (nby x 0)) 49 3 (nby x 1)) 49 4 (nby x 2)) 49 5 (nby x 3), ?_, ⟨by rw [u_nn (by decide), u_nn (by decide), u_nn (by decide), u_nn (by decide), u_nn (by decide), u_nn (by decide), u_ss]; rfl, fun j hj => ?_⟩, ((((((FrS.rf.ups (by decide)).upc (by decide)).upc (by decide)).upc (by decide)).upc (by decide)).upc (by decide)).upc (by decide)⟩
  · have e0 : us x (24 - 8 * 0) &&& 255 = nby x 0 := rfl
    have e1 : us x (24 - 8 * (0 + 1)) &&& 255 = nby x 1 := by unfold nby; rw [show (24 - 8 * (0 + 1) : Int32) = nI (24 - 8 * 1) by decide]
    have e2 : us x (24 - 8 * (0 + 1 + 1)) &&& 255 = nby x 2 := by unfold nby; rw [show (24 - 8 * (0 + 1 + 1) : Int32) = nI (24 - 8 * 2) by decide]
    have e3 : us x (24 - 8 * (0 + 1 + 1 + 1)) &&& 255 = nby x 3 := by unfold nby; rw [show (24 - 8 * (0 + 1 + 1 + 1) : Int32) = nI (24 - 8 * 3) by decide]
    unfold us at e0 e1 e2 e3
    refine con_of (lv := [some (.ref 40), some (.int (nI tg)), some (.int x), none]) (by decide) rfl (Nat.le_of_ble_eq_true rfl) (by simp [lvle]) ?_
    refine r_aload_n dX6_number_0 rfl rfl ?_
    refine r_bipush 6 dX6_number_1 (by decide) ?_
    refine r_putI (N := 35) dX6_number_3 fwX6_125 (by first | rfl | assumption) (Nat.le_of_ble_eq_true rfl) rfl (Or.inl rfl) rfl rfl ?_
    refine r_aload_n dX6_number_6 rfl rfl ?_
    refine r_getR (N := 35) dX6_number_7 fwX6_34 (by first | rfl | assumption) (Nat.le_of_ble_eq_true rfl) rfl (by first | rfl | assumption) ?_
    refine r_iconst 0 dX6_number_10 (by decide) ?_
    refine r_bipush 70 dX6_number_11 (by decide) ?_
    refine r_iastore dX6_number_13 (by first | rfl | assumption) (by exact vp_in_nI (n := 0) (by decide) (by decide)) ?_
    refine r_aload_n dX6_number_14 rfl rfl ?_
    refine r_getR (N := 35) dX6_number_15 fwX6_34 (by first | rfl | assumption) (Nat.le_of_ble_eq_true rfl) rfl (by first | rfl | assumption) ?_
    refine r_iconst 1 dX6_number_18 (by decide) ?_
    refine r_iload_n dX6_number_19 rfl rfl ?_
    refine r_iastore dX6_number_20 (by first | rfl | assumption) (by exact vp_in_nI (n := 1) (by decide) (by decide)) ?_
    refine r_iconst 0 dX6_number_21 (by decide) ?_
    refine r_istore_n3 dX6_number_22 rfl (Nat.le_of_ble_eq_true rfl) ?_
    skip
    refine r_iload_n dX6_number_23 rfl rfl ?_
    refine r_iconst 4 dX6_number_24 (by decide) ?_
    refine r_icmp_ge 55 dX6_number_25 (by decide) (fun c_25 => absurd c_25 (by decide)) (fun c_25 => ?_)
    refine r_aload_n dX6_number_28 rfl rfl ?_
    refine r_getR (N := 35) dX6_number_29 fwX6_34 (by first | rfl | assumption) (Nat.le_of_ble_eq_true rfl) rfl (by first | rfl | assumption) ?_
    refine r_iconst 2 dX6_number_32 (by decide) ?_
    refine r_iload_n dX6_number_33 rfl rfl ?_
    refine r_iadd dX6_number_34 ?_
    refine r_iload_n dX6_number_35 rfl rfl ?_
    refine r_bipush 24 dX6_number_36 (by decide) ?_
    refine r_bipush 8 dX6_number_38 (by decide) ?_
    refine r_iload_n dX6_number_40 rfl rfl ?_
    refine r_imul dX6_number_41 ?_
    refine r_isub dX6_number_42 ?_
    refine r_iushr dX6_number_43 ?_
    refine r_sipush 255 dX6_number_44 (by decide) ?_
    refine r_iand dX6_number_47 ?_
    rw [e0]
    refine r_iastore dX6_number_48 (by first | rfl | assumption) (by exact vp_in_nI (n := 2) (by decide) (by decide)) ?_
    refine r_iinc_3 (_ + 1) dX6_number_49 rfl (Nat.le_of_ble_eq_true rfl) rfl ?_
    refine r_goto 23 dX6_number_52 (by decide) ?_
    skip
    refine r_iload_n dX6_number_23 rfl rfl ?_
    refine r_iconst 4 dX6_number_24 (by decide) ?_
    refine r_icmp_ge 55 dX6_number_25 (by decide) (fun c_25 => absurd c_25 (by decide)) (fun c_25 => ?_)
    refine r_aload_n dX6_number_28 rfl rfl ?_
    refine r_getR (N := 35) dX6_number_29 fwX6_34 (by first | rfl | assumption) (Nat.le_of_ble_eq_true rfl) rfl (by first | rfl | assumption) ?_
    refine r_iconst 2 dX6_number_32 (by decide) ?_
    refine r_iload_n dX6_number_33 rfl rfl ?_
    refine r_iadd dX6_number_34 ?_
    refine r_iload_n dX6_number_35 rfl rfl ?_
    refine r_bipush 24 dX6_number_36 (by decide) ?_
    refine r_bipush 8 dX6_number_38 (by decide) ?_
    refine r_iload_n dX6_number_40 rfl rfl ?_
    refine r_imul dX6_number_41 ?_
    refine r_isub dX6_number_42 ?_
    refine r_iushr dX6_number_43 ?_
    refine r_sipush 255 dX6_number_44 (by decide) ?_
    refine r_iand dX6_number_47 ?_
    rw [e1]
    refine r_iastore dX6_number_48 (by first | rfl | assumption) (by exact vp_in_nI (n := 3) (by decide) (by decide)) ?_
    refine r_iinc_3 (_ + 1) dX6_number_49 rfl (Nat.le_of_ble_eq_true rfl) rfl ?_
    refine r_goto 23 dX6_number_52 (by decide) ?_
    skip
    refine r_iload_n dX6_number_23 rfl rfl ?_
    refine r_iconst 4 dX6_number_24 (by decide) ?_
    refine r_icmp_ge 55 dX6_number_25 (by decide) (fun c_25 => absurd c_25 (by decide)) (fun c_25 => ?_)
    refine r_aload_n dX6_number_28 rfl rfl ?_
    refine r_getR (N := 35) dX6_number_29 fwX6_34 (by first | rfl | assumption) (Nat.le_of_ble_eq_true rfl) rfl (by first | rfl | assumption) ?_
    refine r_iconst 2 dX6_number_32 (by decide) ?_
    refine r_iload_n dX6_number_33 rfl rfl ?_
    refine r_iadd dX6_number_34 ?_
    refine r_iload_n dX6_number_35 rfl rfl ?_
    refine r_bipush 24 dX6_number_36 (by decide) ?_
    refine r_bipush 8 dX6_number_38 (by decide) ?_
    refine r_iload_n dX6_number_40 rfl rfl ?_
    refine r_imul dX6_number_41 ?_
    refine r_isub dX6_number_42 ?_
    refine r_iushr dX6_number_43 ?_
    refine r_sipush 255 dX6_number_44 (by decide) ?_
    refine r_iand dX6_number_47 ?_
    rw [e2]
    refine r_iastore dX6_number_48 (by first | rfl | assumption) (by exact vp_in_nI (n := 4) (by decide) (by decide)) ?_
    refine r_iinc_3 (_ + 1) dX6_number_49 rfl (Nat.le_of_ble_eq_true rfl) rfl ?_
    refine r_goto 23 dX6_number_52 (by decide) ?_
    skip
    refine r_iload_n dX6_number_23 rfl rfl ?_
    refine r_iconst 4 dX6_number_24 (by decide) ?_
    refine r_icmp_ge 55 dX6_number_25 (by decide) (fun c_25 => absurd c_25 (by decide)) (fun c_25 => ?_)
    refine r_aload_n dX6_number_28 rfl rfl ?_
    refine r_getR (N := 35) dX6_number_29 fwX6_34 (by first | rfl | assumption) (Nat.le_of_ble_eq_true rfl) rfl (by first | rfl | assumption) ?_
    refine r_iconst 2 dX6_number_32 (by decide) ?_
    refine r_iload_n dX6_number_33 rfl rfl ?_
    refine r_iadd dX6_number_34 ?_
    refine r_iload_n dX6_number_35 rfl rfl ?_
    refine r_bipush 24 dX6_number_36 (by decide) ?_
    refine r_bipush 8 dX6_number_38 (by decide) ?_
    refine r_iload_n dX6_number_40 rfl rfl ?_
    refine r_imul dX6_number_41 ?_
    refine r_isub dX6_number_42 ?_
    refine r_iushr dX6_number_43 ?_
    refine r_sipush 255 dX6_number_44 (by decide) ?_
    refine r_iand dX6_number_47 ?_
    rw [e3]
    refine r_iastore dX6_number_48 (by first | rfl | assumption) (by exact vp_in_nI (n := 5) (by decide) (by decide)) ?_
    refine r_iinc_3 (_ + 1) dX6_number_49 rfl (Nat.le_of_ble_eq_true rfl) rfl ?_
    refine r_goto 23 dX6_number_52 (by decide) ?_
    skip
    refine r_iload_n dX6_number_23 rfl rfl ?_
    refine r_iconst 4 dX6_number_24 (by decide) ?_
    refine r_icmp_ge 55 dX6_number_25 (by decide) (fun c_25 => ?_) (fun c_25 => absurd (by decide) c_25)
    refine r_return dX6_number_55 rfl (Nat.zero_le _) (Nat.zero_le _) ?_
    exact ⟨rfl, rfl⟩
  · have : j = 0 ∨ j = 1 ∨ j = 2 ∨ j = 3 ∨ j = 4 ∨ j = 5 := by omega
    rcases this with rfl | rfl | rfl | rfl | rfl | rfl
    · rw [u_sn (by decide), u_sn (by decide), u_sn (by decide), u_sn (by decide), u_sn (by decide), u_ss]; rfl
    · rw [u_sn (by decide), u_sn (by decide), u_sn (by decide), u_sn (by decide), u_ss]; rfl
    · rw [u_sn (by decide), u_sn (by decide), u_sn (by decide), u_ss]; rfl
    · rw [u_sn (by decide), u_sn (by decide), u_ss]; rfl
    · rw [u_sn (by decide), u_ss]; rfl
    · rw [u_ss]; rfl
set_option maxHeartbeats 4000000 in
set_option maxRecDepth 100000 in
theorem m_lastOf {M : Mem} {k a b : Int32} : Gv mX6_lastOf [.int k, .int a, .int b] M (some (.int (if k = 3 then 0 else a + b - 1))) M := by
  refine con_of (lv := [some (.int k), some (.int a), some (.int b)]) (by decide) rfl (Nat.le_of_ble_eq_true rfl) (by simp [lvle]) ?_
  refine r_iload_n dX6_lastOf_0 rfl rfl ?_
  refine r_iconst 3 dX6_lastOf_1 (by decide) ?_
  refine r_icmp_ne 9 dX6_lastOf_2 (by decide) (fun c_2 => ?_) (fun c_2 => ?_)
  · refine r_iload_n dX6_lastOf_9 rfl rfl ?_
    refine r_iload_n dX6_lastOf_10 rfl rfl ?_
    refine r_iadd dX6_lastOf_11 ?_
    refine r_iconst 1 dX6_lastOf_12 (by decide) ?_
    refine r_isub dX6_lastOf_13 ?_
    refine r_ireturn dX6_lastOf_14 rfl (Nat.zero_le _) (Nat.zero_le _) ?_
    refine ⟨?_, rfl⟩
    first | rw [if_pos c_2] | rw [if_neg c_2]
  · refine r_iconst 0 dX6_lastOf_5 (by decide) ?_
    refine r_goto 14 dX6_lastOf_6 (by decide) ?_
    refine r_ireturn dX6_lastOf_14 rfl (Nat.zero_le _) (Nat.zero_le _) ?_
    refine ⟨?_, rfl⟩
    first | rw [if_pos c_2] | rw [if_neg c_2]
/-- how a command is DONE: the frames of its numbers, from k on -/
def lpC (P : PL) (kd tg fi : Nat) : Nat → Nat → LSt → DSt → (Nat → Int32) → LSt × DSt × (Nat → Int32) × Bool
  | 0, _, v, d, f => (v, d, f, true)
  | e + 1, k, v, d, f =>
    if (dl P (pNum tg (if kd = 0 then rds d (fi + k) else f k)) 6 4 v).2 = true then
      lpC P kd tg fi e (k + 1) (dl P (pNum tg (if kd = 0 then rds d (fi + k) else f k)) 6 4 v).1 (if kd = 0 then d else if kd = 1 then wrt d (fi + k) (f k) else thr d (fi + k) (f k)) (if kd = 0 then upd f k (rds d (fi + k)) else f)
    else ((dl P (pNum tg (if kd = 0 then rds d (fi + k) else f k)) 6 4 v).1, d, f, false)
def lastN (kd fi mn : Nat) : Nat := if kd = 3 then 0 else fi + mn - 1
def cmd2 (P : PL) (kd tg : Nat) (r : LSt × DSt × (Nat → Int32) × Bool) : LSt × DSt × (Nat → Int32) × Nat :=
  if r.2.2.2 = true then ((dl P (pAns tg 0) 3 4 r.1).1, (if kd = 3 then layD r.2.1 else r.2.1), r.2.2.1, if (dl P (pAns tg 0) 3 4 r.1).2 = true then 0 else 1) else (r.1, r.2.1, r.2.2.1, 1)
/-- how a command is DONE -/
def cmd (P : PL) (kd tg fi mn : Nat) (v : LSt) (d : DSt) (f : Nat → Int32) : LSt × DSt × (Nat → Int32) × Nat :=
  if (dl P (pOrd kd tg fi mn) 5 4 v).2 = true then
    if 31 < lastN kd fi mn then ((dl P (pAns tg 2) 3 4 (dl P (pOrd kd tg fi mn) 5 4 v).1).1, d, f, if (dl P (pAns tg 2) 3 4 (dl P (pOrd kd tg fi mn) 5 4 v).1).2 = true then 2 else 1)
    else cmd2 P kd tg (lpC P kd tg fi mn 0 (dl P (pOrd kd tg fi mn) 5 4 v).1 d f)
  else ((dl P (pOrd kd tg fi mn) 5 4 v).1, d, f, 1)
end
section
def fxC (t : Nat) : List Nat := [6, 7, 8, 9, 10, 13, 15, 16, 17, 20, 21, 25 + 2 * t]
def fxS : List (Nat × Nat) := [(4, 5), (4, 10), (4, 11), (4, 12), (14, 3)]
theorem VC.frS {M M' : Mem} {v : LSt} {cs : List Nat} {ss : List (Nat × Nat)} (h : VC M v) (F : FrS cs ss M M') (h1 : 4 ∉ cs ∧ 10 ∉ cs ∧ 13 ∉ cs) (h2 : ∀ q ∈ ss, q.1 ≠ 4 ∧ q.1 ≠ 10 ∧ q.1 ≠ 13) : VC M' v := by
  have a : ∀ k, M' 4 k = M 4 k := fun k => F 4 k h1.1 (fun z => (h2 _ z).1 rfl)
  have b : ∀ k, M' 10 k = M 10 k := fun k => F 10 k h1.2.1 (fun z => (h2 _ z).2.1 rfl)
  have c : ∀ k, M' 13 k = M 13 k := fun k => F 13 k h1.2.2 (fun z => (h2 _ z).2.2 rfl)
  exact ⟨by rw [a]; exact h.1, fun j q => by rw [c]; exact h.2.1 j q, by rw [a]; exact h.2.2.1, by rw [a]; exact h.2.2.2.1, by rw [a]; exact h.2.2.2.2.1, fun j q => by rw [b]; exact h.2.2.2.2.2 j q⟩
theorem DC.frS {M M' : Mem} {d : DSt} {cs : List Nat} {ss : List (Nat × Nat)} (h : DC M d) (F : FrS cs ss M M') (h1 : 14 ∉ cs ∧ 15 ∉ cs ∧ 16 ∉ cs ∧ 17 ∉ cs) (h2 : ∀ q ∈ ss, q.1 ≠ 14 ∧ q.1 ≠ 15 ∧ q.1 ≠ 16 ∧ q.1 ≠ 17) : DC M' d := by
  have a : ∀ k, M' 14 k = M 14 k := fun k => F 14 k h1.1 (fun z => (h2 _ z).1 rfl)
  have b : ∀ k, M' 15 k = M 15 k := fun k => F 15 k h1.2.1 (fun z => (h2 _ z).2.1 rfl)
  have c : ∀ k, M' 16 k = M 16 k := fun k => F 16 k h1.2.2.1 (fun z => (h2 _ z).2.2.1 rfl)
  have e : ∀ k, M' 17 k = M 17 k := fun k => F 17 k h1.2.2.2 (fun z => (h2 _ z).2.2.2 rfl)
  exact ⟨fun j q => by rw [b]; exact h.1 j q, by rw [a]; exact h.2.1, fun j q => by rw [c, e]; exact h.2.2 j q⟩
/-- what a command's cell holds -/
def CF (M : Mem) (t kd fi mn : Nat) : Prop := M (24 + 2 * t) 0 = nI t ∧ M (24 + 2 * t) 3 = nI kd ∧ M (24 + 2 * t) 4 = nI fi ∧ M (24 + 2 * t) 5 = nI mn
theorem CF.frS {M M' : Mem} {t kd fi mn : Nat} {cs : List Nat} {ss : List (Nat × Nat)} (h : CF M t kd fi mn) (F : FrS cs ss M M') (h1 : 24 + 2 * t ∉ cs) (h2 : ∀ q ∈ ss, q.1 ≠ 24 + 2 * t) : CF M' t kd fi mn := by
  have a : ∀ k, M' (24 + 2 * t) k = M (24 + 2 * t) k := fun k => F _ k h1 (fun z => h2 _ z rfl)
  exact ⟨by rw [a]; exact h.1, by rw [a]; exact h.2.1, by rw [a]; exact h.2.2.1, by rw [a]; exact h.2.2.2⟩
theorem nx_c {t : Nat} : 24 + 2 * t ∉ fxC t := by unfold fxC; simp <;> omega
theorem nx_s {t : Nat} : ∀ q ∈ fxS, q.1 ≠ 24 + 2 * t := by
  intro q hq
  unfold fxS at hq
  simp at hq
  rcases hq with rfl | rfl | rfl | rfl | rfl <;> (dsimp only; omega)
/-- all that a command's frames stand on -/
def CS (M : Mem) (v : LSt) (d : DSt) (P : PL) : Prop := TabC M ∧ TabS M ∧ VC M v ∧ DC M d ∧ PC M P
theorem CS.fr20 {M M' : Mem} {v : LSt} {d : DSt} {P : PL} (h : CS M v d P) (F : FrS [20, 21] [] M M') : CS M' v d P := ⟨h.1.frS F (by decide) (by decide), h.2.1.frS F (by decide) (by decide), h.2.2.1.frS F (by decide) (by decide), h.2.2.2.1.frS F (by decide) (by decide), h.2.2.2.2.frS F (by decide) (by decide) (by decide)⟩
theorem CS.fr4 {M M' : Mem} {v v' : LSt} {d : DSt} {P : PL} (h : CS M v d P) (hv : VC M' v') (F : FrS [6, 7, 8, 9, 10, 13] [(4, 5), (4, 10), (4, 11), (4, 12)] M M') : CS M' v' d P := ⟨h.1.frS F (by decide) (by decide), h.2.1.frS F (by decide) (by decide), hv, h.2.2.2.1.frS F (by decide) (by decide), h.2.2.2.2.frS F (by decide) (by decide) (by decide)⟩
theorem CS.fr14 {M M' : Mem} {v : LSt} {d d' : DSt} {P : PL} (h : CS M v d P) (hd : DC M' d') (F : FrS [15, 16, 17] [(14, 3)] M M') : CS M' v d' P := ⟨h.1.frS F (by decide) (by decide), h.2.1.frS F (by decide) (by decide), h.2.2.1.frS F (by decide) (by decide), hd, h.2.2.2.2.frS F (by decide) (by decide) (by decide)⟩
theorem CS.frn {M M' : Mem} {v : LSt} {d : DSt} {P : PL} {t : Nat} (h : CS M v d P) (F : FrS [25 + 2 * t] [] M M') : CS M' v d P := ⟨h.1.frS F ⟨by simp <;> omega, by simp <;> omega⟩ (by simp), h.2.1.frS F (by simp <;> omega) (by simp), h.2.2.1.frS F ⟨by simp <;> omega, by simp <;> omega, by simp <;> omega⟩ (by simp), h.2.2.2.1.frS F ⟨by simp <;> omega, by simp <;> omega, by simp <;> omega, by simp <;> omega⟩ (by simp), h.2.2.2.2.frS F ⟨by simp <;> omega, by simp <;> omega, by simp <;> omega⟩ (by simp) (by simp)⟩
/-- the frame of the class is sent -/
theorem x_send {M : Mem} {v : LSt} {d : DSt} {P : PL} {p : Nat → Int32} {n : Nat} (h : CS M v d P) (okp : okP P) (H : HB M 20 21 n p) (hp : okF p n) (hfr : v.1 + 4 < 2 ^ 31) : ∃ M', Gv mX4_deliver [.ref 4, .ref 20] M (some (.int (eI (dl P p n 4 v).2))) M' ∧ CS M' (dl P p n 4 v).1 d P ∧ FrS [6, 7, 8, 9, 10, 13] [(4, 5), (4, 10), (4, 11), (4, 12)] M M' := by
  obtain ⟨M', g, hv, F⟩ := x_deliver isBy20 (by decide) (by decide) hp okp h.1 h.2.1 H h.2.2.1 h.2.2.2.2 hfr
  exact ⟨M', g, h.fr4 hv F, F⟩
set_option maxHeartbeats 4000000 in
set_option maxRecDepth 100000 in
theorem x_keep0 {M : Mem} {t k fi mn : Nat} {x : Int32} (ht : t < 8) (hk : k < 4) (hc : CF M t 0 fi mn) : Gv mX5_keepNumber [.ref 0, .ref (24 + 2 * t), .int (nI k), .int x] M none (upd2 M (25 + 2 * t) k x) := by
  obtain ⟨hc1, hc2, hc3⟩ := isCm_t t ht
  have g := x_setNum (M := M) (x := x) (isCm_t t ht) hk
  refine con_of (lv := [some (.ref 0), some (.ref (24 + 2 * t)), some (.int (nI k)), some (.int x)]) (by decide) rfl (Nat.le_of_ble_eq_true rfl) (by simp [lvle]) ?_
  refine r_aload_n dX5_keepNumber_0 rfl rfl ?_
  refine r_getI (N := 8) dX5_keepNumber_1 fwX5_136 (by first | rfl | assumption) (Nat.le_of_ble_eq_true rfl) rfl ?_
  rw [hc.2.1]
  refine r_if_ne 16 dX5_keepNumber_4 (by decide) (fun c_4 => absurd rfl c_4) (fun c_4 => ?_)
  refine r_aload_n dX5_keepNumber_7 rfl rfl ?_
  refine r_iload_n dX5_keepNumber_8 rfl rfl ?_
  refine r_iload_n dX5_keepNumber_9 rfl rfl ?_
  refine gW2 (Y := mX2_setNumber) (ci := 2) (N := 8) dX5_keepNumber_10 mlX5_226 vkX2_setNumber (by first | rfl | assumption) ⟨by decide, rfl⟩ rfl g ?_
  refine r_goto 55 dX5_keepNumber_13 (by decide) ?_
  refine r_return dX5_keepNumber_55 rfl (Nat.zero_le _) (Nat.zero_le _) ?_
  exact ⟨rfl, rfl⟩
set_option maxHeartbeats 4000000 in
set_option maxRecDepth 100000 in
theorem x_keep1 {M : Mem} {d : DSt} {t k fi mn : Nat} {x : Int32} (ht : t < 8) (hk : k < 4) (hs : fi + k < 32) (hc : CF M t 1 fi mn) (h : DC M d) (ok : okD d) : ∃ M', Gv mX5_keepNumber [.ref 0, .ref (24 + 2 * t), .int (nI k), .int x] M none M' ∧ DC M' (wrt d (fi + k) x) ∧ FrS [15, 16, 17] [(14, 3)] M M' := by
  obtain ⟨hc1, hc2, hc3⟩ := isCm_t t ht
  obtain ⟨M', g, H, F⟩ := x_putIn (v := x) h ok hs
  refine ⟨M', ?_, H, F⟩
  refine con_of (lv := [some (.ref 0), some (.ref (24 + 2 * t)), some (.int (nI k)), some (.int x)]) (by decide) rfl (Nat.le_of_ble_eq_true rfl) (by simp [lvle]) ?_
  refine r_aload_n dX5_keepNumber_0 rfl rfl ?_
  refine r_getI (N := 8) dX5_keepNumber_1 fwX5_136 (by first | rfl | assumption) (Nat.le_of_ble_eq_true rfl) rfl ?_
  rw [hc.2.1]
  refine r_if_ne 16 dX5_keepNumber_4 (by decide) (fun c_4 => ?_) (fun c_4 => absurd c_4 (by decide))
  refine r_aload_n dX5_keepNumber_16 rfl rfl ?_
  refine r_getI (N := 8) dX5_keepNumber_17 fwX5_136 (by first | rfl | assumption) (Nat.le_of_ble_eq_true rfl) rfl ?_
  refine r_iconst 1 dX5_keepNumber_20 (by decide) ?_
  rw [hc.2.1]
  refine r_icmp_ne 41 dX5_keepNumber_21 (by decide) (fun c_21 => absurd rfl c_21) (fun c_21 => ?_)
  refine r_aload_n dX5_keepNumber_24 rfl rfl ?_
  refine r_getR (N := 10) dX5_keepNumber_25 fwX5_28 (by first | rfl | assumption) (Nat.le_of_ble_eq_true rfl) rfl (by first | rfl | assumption) ?_
  refine r_aload_n dX5_keepNumber_28 rfl rfl ?_
  refine r_getI (N := 8) dX5_keepNumber_29 fwX5_195 (by first | rfl | assumption) (Nat.le_of_ble_eq_true rfl) rfl ?_
  refine r_iload_n dX5_keepNumber_32 rfl rfl ?_
  refine r_iadd dX5_keepNumber_33 ?_
  rw [hc.2.2.1, nI_add]
  refine r_iload_n dX5_keepNumber_34 rfl rfl ?_
  refine gW2 (Y := mX3_putInCache) (ci := 3) (N := 4) dX5_keepNumber_35 mlX5_227 vkX3_putInCache (by first | rfl | assumption) ⟨by decide, rfl⟩ rfl g ?_
  refine r_goto 55 dX5_keepNumber_38 (by decide) ?_
  refine r_return dX5_keepNumber_55 rfl (Nat.zero_le _) (Nat.zero_le _) ?_
  exact ⟨rfl, rfl⟩
set_option maxHeartbeats 4000000 in
set_option maxRecDepth 100000 in
theorem x_keep2 {M : Mem} {d : DSt} {t k kd fi mn : Nat} {x : Int32} (ht : t < 8) (hk : k < 4) (hkd : kd = 2) (hs : fi + k < 32) (hc : CF M t kd fi mn) (h : DC M d) (ok : okD d) : ∃ M', Gv mX5_keepNumber [.ref 0, .ref (24 + 2 * t), .int (nI k), .int x] M none M' ∧ DC M' (thr d (fi + k) x) ∧ FrS [15, 16, 17] [(14, 3)] M M' := by
  obtain ⟨hc1, hc2, hc3⟩ := isCm_t t ht
  subst hkd
  obtain ⟨M', g, H, F⟩ := x_through (v := x) h ok hs
  refine ⟨M', ?_, H, F⟩
  refine con_of (lv := [some (.ref 0), some (.ref (24 + 2 * t)), some (.int (nI k)), some (.int x)]) (by decide) rfl (Nat.le_of_ble_eq_true rfl) (by simp [lvle]) ?_
  refine r_aload_n dX5_keepNumber_0 rfl rfl ?_
  refine r_getI (N := 8) dX5_keepNumber_1 fwX5_136 (by first | rfl | assumption) (Nat.le_of_ble_eq_true rfl) rfl ?_
  rw [hc.2.1]
  refine r_if_ne 16 dX5_keepNumber_4 (by decide) (fun c_4 => ?_) (fun c_4 => absurd c_4 (by decide))
  refine r_aload_n dX5_keepNumber_16 rfl rfl ?_
  refine r_getI (N := 8) dX5_keepNumber_17 fwX5_136 (by first | rfl | assumption) (Nat.le_of_ble_eq_true rfl) rfl ?_
  refine r_iconst 1 dX5_keepNumber_20 (by decide) ?_
  rw [hc.2.1]
  refine r_icmp_ne 41 dX5_keepNumber_21 (by decide) (fun c_21 => ?_) (fun c_21 => absurd c_21 (by decide))
  refine r_aload_n dX5_keepNumber_41 rfl rfl ?_
  refine r_getR (N := 10) dX5_keepNumber_42 fwX5_28 (by first | rfl | assumption) (Nat.le_of_ble_eq_true rfl) rfl (by first | rfl | assumption) ?_
  refine r_aload_n dX5_keepNumber_45 rfl rfl ?_
  refine r_getI (N := 8) dX5_keepNumber_46 fwX5_195 (by first | rfl | assumption) (Nat.le_of_ble_eq_true rfl) rfl ?_
  refine r_iload_n dX5_keepNumber_49 rfl rfl ?_
  refine r_iadd dX5_keepNumber_50 ?_
  rw [hc.2.2.1, nI_add]
  refine r_iload_n dX5_keepNumber_51 rfl rfl ?_
  refine gW2 (Y := mX3_putThrough) (ci := 3) (N := 4) dX5_keepNumber_52 mlX5_230 vkX3_putThrough (by first | rfl | assumption) ⟨by decide, rfl⟩ rfl g ?_
  refine r_return dX5_keepNumber_55 rfl (Nat.zero_le _) (Nat.zero_le _) ?_
  exact ⟨rfl, rfl⟩
set_option maxHeartbeats 4000000 in
set_option maxRecDepth 100000 in
theorem x_co_end {M : Mem} {v : LSt} {d : DSt} {P : PL} {t kd fi mn : Nat} {a b : Option Value} (ht : t < 8) (hkd : kd ≤ 3) (h : CS M v d P) (okp : okP P) (ok : okD d) (hc : CF M t kd fi mn) (hfr : v.1 + 4 < 2 ^ 31) : ∃ M', WP mX5_carryOut 137 [some (.ref 0), some (.ref (24 + 2 * t)), some (.int 0), none, none, none] [] 0 0 (shp, rfs, M) (fun r1 h1 => r1 = some (.int (nI (if (dl P (pAns t 0) 3 4 v).2 = true then 0 else 1))) ∧ h1 = (shp, rfs, M')) ∧ CS M' (dl P (pAns t 0) 3 4 v).1 (if kd = 3 then layD d else d) P ∧ FrS (fxC t) fxS M M' ∧ ∀ j, M' (25 + 2 * t) j = M (25 + 2 * t) j := by
  obtain ⟨hc1, hc2, hc3⟩ := isCm_t t ht
  have key : ∃ M1, CS M1 v (if kd = 3 then layD d else d) P ∧ FrS [15] [(14, 3)] M M1 ∧ ∀ Q, WP mX5_carryOut 152 [some (.ref 0), some (.ref (24 + 2 * t)), some (.int 0), none, none, none] [] 0 0 (shp, rfs, M1) Q → WP mX5_carryOut 137 [some (.ref 0), some (.ref (24 + 2 * t)), some (.int 0), none, none, none] [] 0 0 (shp, rfs, M) Q := by
    by_cases h3 : kd = 3
    · subst h3
      obtain ⟨M1, g1, H1, F1⟩ := x_layAll h.2.2.2.1 ok
      refine ⟨M1, by rw [if_pos rfl]; exact h.fr14 H1 (F1.mono (by decide) (by decide)), F1, fun Q hq => ?_⟩
      refine r_aload_n dX5_carryOut_137 rfl rfl ?_
      refine r_getI (N := 8) dX5_carryOut_138 fwX5_136 (by first | exact hc1 | exact hc2 | exact hc3 | rfl | exact hB1 | exact hB2 | exact hB3) (Nat.le_of_ble_eq_true rfl) rfl ?_
      refine r_iconst 3 dX5_carryOut_141 (by decide) ?_
      rw [hc.2.1]
      refine r_icmp_ne 152 dX5_carryOut_142 (by decide) (fun c_142 => absurd rfl c_142) (fun c_142 => ?_)
      refine r_aload_n dX5_carryOut_145 rfl rfl ?_
      refine r_getR (N := 10) dX5_carryOut_146 fwX5_28 (by first | exact hc1 | exact hc2 | exact hc3 | rfl | exact hB1 | exact hB2 | exact hB3) (Nat.le_of_ble_eq_true rfl) rfl (by first | exact hc1 | exact hc2 | exact hc3 | rfl | exact hB1 | exact hB2 | exact hB3) ?_
      refine gW0 (Y := mX3_layAll) (ci := 3) (N := 4) dX5_carryOut_149 mlX5_220 vkX3_layAll (by first | exact hc1 | exact hc2 | exact hc3 | rfl | exact hB1 | exact hB2 | exact hB3) ⟨by decide, rfl⟩ rfl g1 ?_
      exact hq
    · refine ⟨M, by rw [if_neg h3]; exact h, FrS.rf, fun Q hq => ?_⟩
      refine r_aload_n dX5_carryOut_137 rfl rfl ?_
      refine r_getI (N := 8) dX5_carryOut_138 fwX5_136 (by first | exact hc1 | exact hc2 | exact hc3 | rfl | exact hB1 | exact hB2 | exact hB3) (Nat.le_of_ble_eq_true rfl) rfl ?_
      refine r_iconst 3 dX5_carryOut_141 (by decide) ?_
      rw [hc.2.1]
      refine r_icmp_ne 152 dX5_carryOut_142 (by decide) (fun c_142 => ?_) (fun c_142 => absurd ((nI_eq (a := kd) (b := 3) (by omega) (by decide)).mp c_142) h3)
      exact hq
  obtain ⟨M1, h1, F1, w1⟩ := key
  obtain ⟨M2, g2, H2, F2⟩ := x_setAnswer (M := M1) (tg := t) (oc := 0) (by decide) (by omega)
  obtain ⟨M3, g3, h3, F3⟩ := x_send (h1.fr20 F2.S) okp H2 (pAns_ok (by decide) (by omega)) hfr
  have e0 : M1 (24 + 2 * t) 0 = nI t := by rw [F1 _ 0 (by simp <;> omega) (by simp <;> omega)]; exact hc.1
  refine ⟨M3, w1 _ ?_, h3, ((F1.mono (by unfold fxC; simp) (by unfold fxS; simp)).tr (F2.S.mono (by unfold fxC; simp) (by simp))).tr (F3.mono (by unfold fxC; simp) (by unfold fxS; simp)), fun j => by rw [F3 _ j (by simp <;> omega) (by simp <;> omega), F2.S _ j (by simp <;> omega) (by simp), F1 _ j (by simp <;> omega) (by simp <;> omega)]⟩
  cases hq : (dl P (pAns t 0) 3 4 v).2 with
  | true =>
    rw [hq] at g3
    refine r_aload_n dX5_carryOut_152 rfl rfl ?_
    refine r_getR (N := 10) dX5_carryOut_153 fwX5_39 (by first | exact hc1 | exact hc2 | exact hc3 | rfl | exact hB1 | exact hB2 | exact hB3) (Nat.le_of_ble_eq_true rfl) rfl (by first | exact hc1 | exact hc2 | exact hc3 | rfl | exact hB1 | exact hB2 | exact hB3) ?_
    refine r_aload_n dX5_carryOut_156 rfl rfl ?_
    refine r_getI (N := 8) dX5_carryOut_157 fwX5_127 (by first | exact hc1 | exact hc2 | exact hc3 | rfl | exact hB1 | exact hB2 | exact hB3) (Nat.le_of_ble_eq_true rfl) rfl ?_
    rw [e0]
    refine r_iload_n dX5_carryOut_160 rfl rfl ?_
    refine gW2 (Y := mX0_setAnswer) (ci := 0) (N := 2) dX5_carryOut_161 mlX5_223 vkX0_setAnswer (by first | exact hc1 | exact hc2 | exact hc3 | rfl | exact hB1 | exact hB2 | exact hB3) ⟨by decide, rfl⟩ rfl g2 ?_
    refine r_aload_n dX5_carryOut_164 rfl rfl ?_
    refine r_getR (N := 10) dX5_carryOut_165 fwX5_21 (by first | exact hc1 | exact hc2 | exact hc3 | rfl | exact hB1 | exact hB2 | exact hB3) (Nat.le_of_ble_eq_true rfl) rfl (by first | exact hc1 | exact hc2 | exact hc3 | rfl | exact hB1 | exact hB2 | exact hB3) ?_
    refine r_aload_n dX5_carryOut_168 rfl rfl ?_
    refine r_getR (N := 10) dX5_carryOut_169 fwX5_39 (by first | exact hc1 | exact hc2 | exact hc3 | rfl | exact hB1 | exact hB2 | exact hB3) (Nat.le_of_ble_eq_true rfl) rfl (by first | exact hc1 | exact hc2 | exact hc3 | rfl | exact hB1 | exact hB2 | exact hB3) ?_
    refine gV1 (Y := mX4_deliver) (ci := 4) (N := 13) dX5_carryOut_172 mlX5_202 vkX4_deliver (by first | exact hc1 | exact hc2 | exact hc3 | rfl | exact hB1 | exact hB2 | exact hB3) ⟨by decide, rfl⟩ rfl g3 ?_
    refine r_if_eq 182 dX5_carryOut_175 (by decide) (fun c_175 => absurd c_175 (by decide)) (fun c_175 => ?_)
    refine r_iload_n dX5_carryOut_178 rfl rfl ?_
    refine r_goto 183 dX5_carryOut_179 (by decide) ?_
    refine r_ireturn dX5_carryOut_183 rfl (Nat.zero_le _) (Nat.zero_le _) ?_
    exact ⟨rfl, rfl⟩
  | false =>
    rw [hq] at g3
    refine r_aload_n dX5_carryOut_152 rfl rfl ?_
    refine r_getR (N := 10) dX5_carryOut_153 fwX5_39 (by first | exact hc1 | exact hc2 | exact hc3 | rfl | exact hB1 | exact hB2 | exact hB3) (Nat.le_of_ble_eq_true rfl) rfl (by first | exact hc1 | exact hc2 | exact hc3 | rfl | exact hB1 | exact hB2 | exact hB3) ?_
    refine r_aload_n dX5_carryOut_156 rfl rfl ?_
    refine r_getI (N := 8) dX5_carryOut_157 fwX5_127 (by first | exact hc1 | exact hc2 | exact hc3 | rfl | exact hB1 | exact hB2 | exact hB3) (Nat.le_of_ble_eq_true rfl) rfl ?_
    rw [e0]
    refine r_iload_n dX5_carryOut_160 rfl rfl ?_
    refine gW2 (Y := mX0_setAnswer) (ci := 0) (N := 2) dX5_carryOut_161 mlX5_223 vkX0_setAnswer (by first | exact hc1 | exact hc2 | exact hc3 | rfl | exact hB1 | exact hB2 | exact hB3) ⟨by decide, rfl⟩ rfl g2 ?_
    refine r_aload_n dX5_carryOut_164 rfl rfl ?_
    refine r_getR (N := 10) dX5_carryOut_165 fwX5_21 (by first | exact hc1 | exact hc2 | exact hc3 | rfl | exact hB1 | exact hB2 | exact hB3) (Nat.le_of_ble_eq_true rfl) rfl (by first | exact hc1 | exact hc2 | exact hc3 | rfl | exact hB1 | exact hB2 | exact hB3) ?_
    refine r_aload_n dX5_carryOut_168 rfl rfl ?_
    refine r_getR (N := 10) dX5_carryOut_169 fwX5_39 (by first | exact hc1 | exact hc2 | exact hc3 | rfl | exact hB1 | exact hB2 | exact hB3) (Nat.le_of_ble_eq_true rfl) rfl (by first | exact hc1 | exact hc2 | exact hc3 | rfl | exact hB1 | exact hB2 | exact hB3) ?_
    refine gV1 (Y := mX4_deliver) (ci := 4) (N := 13) dX5_carryOut_172 mlX5_202 vkX4_deliver (by first | exact hc1 | exact hc2 | exact hc3 | rfl | exact hB1 | exact hB2 | exact hB3) ⟨by decide, rfl⟩ rfl g3 ?_
    refine r_if_eq 182 dX5_carryOut_175 (by decide) (fun c_175 => ?_) (fun c_175 => absurd rfl c_175)
    refine r_iconst 1 dX5_carryOut_182 (by decide) ?_
    refine r_ireturn dX5_carryOut_183 rfl (Nat.zero_le _) (Nat.zero_le _) ?_
    exact ⟨rfl, rfl⟩
end
