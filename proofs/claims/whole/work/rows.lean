section
-- ===== PART A: goes FIRST, ahead of the names: the tables' words, and 'selects' of the private methods out of them =====
/-- a private method of a class that the tables say can be made, by its rows of tables_1 -/
def lw_okq (q : MethodName × Nat) : Prop := (q.1.cls ≠ "java/lang/invoke/MethodHandle" ∧ q.1.cls ≠ "java/lang/invoke/VarHandle") ∧ Cond.instantiable q.1.cls q.2 ∈ tables_1 ∧ Cond.privateMethod q.1 ∈ tables_1 ∧ Cond.instanceMethod q.1 ∈ tables_1
theorem lw_p0 : lw_okq (⟨"TrapGate", "serve", "(II)I"⟩, 9) := ⟨⟨by decide +kernel, by decide +kernel⟩, List.mem_of_getElem? (i := 12) (by decide +kernel), List.mem_of_getElem? (i := 204) (by decide +kernel), List.mem_of_getElem? (i := 205) (by decide +kernel)⟩
theorem lw_p1 : lw_okq (⟨"TrapGate", "open", "(III)I"⟩, 9) := ⟨⟨by decide +kernel, by decide +kernel⟩, List.mem_of_getElem? (i := 12) (by decide +kernel), List.mem_of_getElem? (i := 208) (by decide +kernel), List.mem_of_getElem? (i := 209) (by decide +kernel)⟩
theorem lw_p2 : lw_okq (⟨"TrapGate", "leastFreeFile", "()I"⟩, 9) := ⟨⟨by decide +kernel, by decide +kernel⟩, List.mem_of_getElem? (i := 12) (by decide +kernel), List.mem_of_getElem? (i := 242) (by decide +kernel), List.mem_of_getElem? (i := 243) (by decide +kernel)⟩
theorem lw_p3 : lw_okq (⟨"TrapGate", "isFileThere", "(I)Z"⟩, 9) := ⟨⟨by decide +kernel, by decide +kernel⟩, List.mem_of_getElem? (i := 12) (by decide +kernel), List.mem_of_getElem? (i := 246) (by decide +kernel), List.mem_of_getElem? (i := 247) (by decide +kernel)⟩
theorem lw_p4 : lw_okq (⟨"TrapGate", "close", "(II)I"⟩, 9) := ⟨⟨by decide +kernel, by decide +kernel⟩, List.mem_of_getElem? (i := 12) (by decide +kernel), List.mem_of_getElem? (i := 274) (by decide +kernel), List.mem_of_getElem? (i := 275) (by decide +kernel)⟩
theorem lw_p5 : lw_okq (⟨"TrapGate", "transfer", "(IIIII)I"⟩, 9) := ⟨⟨by decide +kernel, by decide +kernel⟩, List.mem_of_getElem? (i := 12) (by decide +kernel), List.mem_of_getElem? (i := 287) (by decide +kernel), List.mem_of_getElem? (i := 288) (by decide +kernel)⟩
theorem lw_p6 : lw_okq (⟨"TrapGate", "readOpen", "(II)I"⟩, 9) := ⟨⟨by decide +kernel, by decide +kernel⟩, List.mem_of_getElem? (i := 12) (by decide +kernel), List.mem_of_getElem? (i := 311) (by decide +kernel), List.mem_of_getElem? (i := 312) (by decide +kernel)⟩
theorem lw_p7 : lw_okq (⟨"TrapGate", "takeFromPipe", "(II)I"⟩, 9) := ⟨⟨by decide +kernel, by decide +kernel⟩, List.mem_of_getElem? (i := 12) (by decide +kernel), List.mem_of_getElem? (i := 327) (by decide +kernel), List.mem_of_getElem? (i := 328) (by decide +kernel)⟩
theorem lw_p8 : lw_okq (⟨"TrapGate", "takeFromFile", "(II)I"⟩, 9) := ⟨⟨by decide +kernel, by decide +kernel⟩, List.mem_of_getElem? (i := 12) (by decide +kernel), List.mem_of_getElem? (i := 338) (by decide +kernel), List.mem_of_getElem? (i := 339) (by decide +kernel)⟩
theorem lw_p9 : lw_okq (⟨"TrapGate", "scatter", "(II)V"⟩, 9) := ⟨⟨by decide +kernel, by decide +kernel⟩, List.mem_of_getElem? (i := 12) (by decide +kernel), List.mem_of_getElem? (i := 349) (by decide +kernel), List.mem_of_getElem? (i := 350) (by decide +kernel)⟩
theorem lw_p10 : lw_okq (⟨"TrapGate", "writeOpen", "(II)I"⟩, 9) := ⟨⟨by decide +kernel, by decide +kernel⟩, List.mem_of_getElem? (i := 12) (by decide +kernel), List.mem_of_getElem? (i := 361) (by decide +kernel), List.mem_of_getElem? (i := 362) (by decide +kernel)⟩
theorem lw_p11 : lw_okq (⟨"TrapGate", "gather", "(II)V"⟩, 9) := ⟨⟨by decide +kernel, by decide +kernel⟩, List.mem_of_getElem? (i := 12) (by decide +kernel), List.mem_of_getElem? (i := 365) (by decide +kernel), List.mem_of_getElem? (i := 366) (by decide +kernel)⟩
theorem lw_p12 : lw_okq (⟨"TrapGate", "putInPipe", "(II)I"⟩, 9) := ⟨⟨by decide +kernel, by decide +kernel⟩, List.mem_of_getElem? (i := 12) (by decide +kernel), List.mem_of_getElem? (i := 370) (by decide +kernel), List.mem_of_getElem? (i := 371) (by decide +kernel)⟩
theorem lw_p13 : lw_okq (⟨"TrapGate", "putInFile", "(II)I"⟩, 9) := ⟨⟨by decide +kernel, by decide +kernel⟩, List.mem_of_getElem? (i := 12) (by decide +kernel), List.mem_of_getElem? (i := 378) (by decide +kernel), List.mem_of_getElem? (i := 379) (by decide +kernel)⟩
theorem lw_p14 : lw_okq (⟨"TrapGate", "seek", "(III)I"⟩, 9) := ⟨⟨by decide +kernel, by decide +kernel⟩, List.mem_of_getElem? (i := 12) (by decide +kernel), List.mem_of_getElem? (i := 387) (by decide +kernel), List.mem_of_getElem? (i := 388) (by decide +kernel)⟩
theorem lw_p15 : lw_okq (⟨"TrapGate", "duplicate", "(II)I"⟩, 9) := ⟨⟨by decide +kernel, by decide +kernel⟩, List.mem_of_getElem? (i := 12) (by decide +kernel), List.mem_of_getElem? (i := 391) (by decide +kernel), List.mem_of_getElem? (i := 392) (by decide +kernel)⟩
def lw_privs_1 : List (MethodName × Nat) := [(⟨"TrapGate", "serve", "(II)I"⟩, 9), (⟨"TrapGate", "open", "(III)I"⟩, 9), (⟨"TrapGate", "leastFreeFile", "()I"⟩, 9), (⟨"TrapGate", "isFileThere", "(I)Z"⟩, 9), (⟨"TrapGate", "close", "(II)I"⟩, 9), (⟨"TrapGate", "transfer", "(IIIII)I"⟩, 9), (⟨"TrapGate", "readOpen", "(II)I"⟩, 9), (⟨"TrapGate", "takeFromPipe", "(II)I"⟩, 9), (⟨"TrapGate", "takeFromFile", "(II)I"⟩, 9), (⟨"TrapGate", "scatter", "(II)V"⟩, 9), (⟨"TrapGate", "writeOpen", "(II)I"⟩, 9), (⟨"TrapGate", "gather", "(II)V"⟩, 9), (⟨"TrapGate", "putInPipe", "(II)I"⟩, 9), (⟨"TrapGate", "putInFile", "(II)I"⟩, 9), (⟨"TrapGate", "seek", "(III)I"⟩, 9), (⟨"TrapGate", "duplicate", "(II)I"⟩, 9)]
theorem lw_r1 : ∀ q ∈ lw_privs_1, lw_okq q := List.forall_mem_cons.mpr ⟨lw_p0, List.forall_mem_cons.mpr ⟨lw_p1, List.forall_mem_cons.mpr ⟨lw_p2, List.forall_mem_cons.mpr ⟨lw_p3, List.forall_mem_cons.mpr ⟨lw_p4, List.forall_mem_cons.mpr ⟨lw_p5, List.forall_mem_cons.mpr ⟨lw_p6, List.forall_mem_cons.mpr ⟨lw_p7, List.forall_mem_cons.mpr ⟨lw_p8, List.forall_mem_cons.mpr ⟨lw_p9, List.forall_mem_cons.mpr ⟨lw_p10, List.forall_mem_cons.mpr ⟨lw_p11, List.forall_mem_cons.mpr ⟨lw_p12, List.forall_mem_cons.mpr ⟨lw_p13, List.forall_mem_cons.mpr ⟨lw_p14, List.forall_mem_cons.mpr ⟨lw_p15, fun _ h => absurd h List.not_mem_nil⟩⟩⟩⟩⟩⟩⟩⟩⟩⟩⟩⟩⟩⟩⟩⟩
theorem lw_p16 : lw_okq (⟨"TrapGate", "unlink", "(II)I"⟩, 9) := ⟨⟨by decide +kernel, by decide +kernel⟩, List.mem_of_getElem? (i := 12) (by decide +kernel), List.mem_of_getElem? (i := 395) (by decide +kernel), List.mem_of_getElem? (i := 396) (by decide +kernel)⟩
theorem lw_p17 : lw_okq (⟨"TrapGate", "link", "(III)I"⟩, 9) := ⟨⟨by decide +kernel, by decide +kernel⟩, List.mem_of_getElem? (i := 12) (by decide +kernel), List.mem_of_getElem? (i := 403) (by decide +kernel), List.mem_of_getElem? (i := 404) (by decide +kernel)⟩
theorem lw_p18 : lw_okq (⟨"TrapGate", "stat", "(III)I"⟩, 9) := ⟨⟨by decide +kernel, by decide +kernel⟩, List.mem_of_getElem? (i := 12) (by decide +kernel), List.mem_of_getElem? (i := 407) (by decide +kernel), List.mem_of_getElem? (i := 408) (by decide +kernel)⟩
theorem lw_p19 : lw_okq (⟨"TrapGate", "makePipe", "(II)I"⟩, 9) := ⟨⟨by decide +kernel, by decide +kernel⟩, List.mem_of_getElem? (i := 12) (by decide +kernel), List.mem_of_getElem? (i := 411) (by decide +kernel), List.mem_of_getElem? (i := 412) (by decide +kernel)⟩
theorem lw_p20 : lw_okq (⟨"TrapGate", "leastFreePipe", "()I"⟩, 9) := ⟨⟨by decide +kernel, by decide +kernel⟩, List.mem_of_getElem? (i := 12) (by decide +kernel), List.mem_of_getElem? (i := 415) (by decide +kernel), List.mem_of_getElem? (i := 416) (by decide +kernel)⟩
theorem lw_p21 : lw_okq (⟨"TrapGate", "isPipeThere", "(I)Z"⟩, 9) := ⟨⟨by decide +kernel, by decide +kernel⟩, List.mem_of_getElem? (i := 12) (by decide +kernel), List.mem_of_getElem? (i := 419) (by decide +kernel), List.mem_of_getElem? (i := 420) (by decide +kernel)⟩
theorem lw_p22 : lw_okq (⟨"TrapGate", "list", "(III)I"⟩, 9) := ⟨⟨by decide +kernel, by decide +kernel⟩, List.mem_of_getElem? (i := 12) (by decide +kernel), List.mem_of_getElem? (i := 423) (by decide +kernel), List.mem_of_getElem? (i := 424) (by decide +kernel)⟩
theorem lw_p23 : lw_okq (⟨"TrapGate", "copy", "(IIII)I"⟩, 9) := ⟨⟨by decide +kernel, by decide +kernel⟩, List.mem_of_getElem? (i := 12) (by decide +kernel), List.mem_of_getElem? (i := 434) (by decide +kernel), List.mem_of_getElem? (i := 435) (by decide +kernel)⟩
theorem lw_p24 : lw_okq (⟨"TrapGate", "protect", "(III)I"⟩, 9) := ⟨⟨by decide +kernel, by decide +kernel⟩, List.mem_of_getElem? (i := 12) (by decide +kernel), List.mem_of_getElem? (i := 438) (by decide +kernel), List.mem_of_getElem? (i := 439) (by decide +kernel)⟩
theorem lw_p25 : lw_okq (⟨"TrapGate", "transferRanges", "(IIIII)I"⟩, 9) := ⟨⟨by decide +kernel, by decide +kernel⟩, List.mem_of_getElem? (i := 12) (by decide +kernel), List.mem_of_getElem? (i := 442) (by decide +kernel), List.mem_of_getElem? (i := 443) (by decide +kernel)⟩
theorem lw_p26 : lw_okq (⟨"TrapGate", "takeRanges", "(IIII)Z"⟩, 9) := ⟨⟨by decide +kernel, by decide +kernel⟩, List.mem_of_getElem? (i := 12) (by decide +kernel), List.mem_of_getElem? (i := 446) (by decide +kernel), List.mem_of_getElem? (i := 447) (by decide +kernel)⟩
theorem lw_p27 : lw_okq (⟨"TrapGate", "rename", "(III)I"⟩, 9) := ⟨⟨by decide +kernel, by decide +kernel⟩, List.mem_of_getElem? (i := 12) (by decide +kernel), List.mem_of_getElem? (i := 452) (by decide +kernel), List.mem_of_getElem? (i := 453) (by decide +kernel)⟩
theorem lw_p28 : lw_okq (⟨"TrapGate", "filesThere", "()I"⟩, 9) := ⟨⟨by decide +kernel, by decide +kernel⟩, List.mem_of_getElem? (i := 12) (by decide +kernel), List.mem_of_getElem? (i := 469) (by decide +kernel), List.mem_of_getElem? (i := 470) (by decide +kernel)⟩
theorem lw_p29 : lw_okq (⟨"TrapGate", "pipesThere", "()I"⟩, 9) := ⟨⟨by decide +kernel, by decide +kernel⟩, List.mem_of_getElem? (i := 12) (by decide +kernel), List.mem_of_getElem? (i := 477) (by decide +kernel), List.mem_of_getElem? (i := 478) (by decide +kernel)⟩
theorem lw_p30 : lw_okq (⟨"TrapGateModel", "first", "(I)I"⟩, 28) := ⟨⟨by decide +kernel, by decide +kernel⟩, List.mem_of_getElem? (i := 489) (by decide +kernel), List.mem_of_getElem? (i := 626) (by decide +kernel), List.mem_of_getElem? (i := 627) (by decide +kernel)⟩
theorem lw_p31 : lw_okq (⟨"TrapGateModel", "open", "()I"⟩, 28) := ⟨⟨by decide +kernel, by decide +kernel⟩, List.mem_of_getElem? (i := 489) (by decide +kernel), List.mem_of_getElem? (i := 630) (by decide +kernel), List.mem_of_getElem? (i := 631) (by decide +kernel)⟩
def lw_privs_2 : List (MethodName × Nat) := [(⟨"TrapGate", "unlink", "(II)I"⟩, 9), (⟨"TrapGate", "link", "(III)I"⟩, 9), (⟨"TrapGate", "stat", "(III)I"⟩, 9), (⟨"TrapGate", "makePipe", "(II)I"⟩, 9), (⟨"TrapGate", "leastFreePipe", "()I"⟩, 9), (⟨"TrapGate", "isPipeThere", "(I)Z"⟩, 9), (⟨"TrapGate", "list", "(III)I"⟩, 9), (⟨"TrapGate", "copy", "(IIII)I"⟩, 9), (⟨"TrapGate", "protect", "(III)I"⟩, 9), (⟨"TrapGate", "transferRanges", "(IIIII)I"⟩, 9), (⟨"TrapGate", "takeRanges", "(IIII)Z"⟩, 9), (⟨"TrapGate", "rename", "(III)I"⟩, 9), (⟨"TrapGate", "filesThere", "()I"⟩, 9), (⟨"TrapGate", "pipesThere", "()I"⟩, 9), (⟨"TrapGateModel", "first", "(I)I"⟩, 28), (⟨"TrapGateModel", "open", "()I"⟩, 28)]
theorem lw_r2 : ∀ q ∈ lw_privs_2, lw_okq q := List.forall_mem_cons.mpr ⟨lw_p16, List.forall_mem_cons.mpr ⟨lw_p17, List.forall_mem_cons.mpr ⟨lw_p18, List.forall_mem_cons.mpr ⟨lw_p19, List.forall_mem_cons.mpr ⟨lw_p20, List.forall_mem_cons.mpr ⟨lw_p21, List.forall_mem_cons.mpr ⟨lw_p22, List.forall_mem_cons.mpr ⟨lw_p23, List.forall_mem_cons.mpr ⟨lw_p24, List.forall_mem_cons.mpr ⟨lw_p25, List.forall_mem_cons.mpr ⟨lw_p26, List.forall_mem_cons.mpr ⟨lw_p27, List.forall_mem_cons.mpr ⟨lw_p28, List.forall_mem_cons.mpr ⟨lw_p29, List.forall_mem_cons.mpr ⟨lw_p30, List.forall_mem_cons.mpr ⟨lw_p31, fun _ h => absurd h List.not_mem_nil⟩⟩⟩⟩⟩⟩⟩⟩⟩⟩⟩⟩⟩⟩⟩⟩
theorem lw_p32 : lw_okq (⟨"TrapGateModel", "string", "(II)Z"⟩, 28) := ⟨⟨by decide +kernel, by decide +kernel⟩, List.mem_of_getElem? (i := 489) (by decide +kernel), List.mem_of_getElem? (i := 634) (by decide +kernel), List.mem_of_getElem? (i := 635) (by decide +kernel)⟩
theorem lw_p33 : lw_okq (⟨"TrapGateModel", "place", "(II)I"⟩, 28) := ⟨⟨by decide +kernel, by decide +kernel⟩, List.mem_of_getElem? (i := 489) (by decide +kernel), List.mem_of_getElem? (i := 638) (by decide +kernel), List.mem_of_getElem? (i := 639) (by decide +kernel)⟩
theorem lw_p34 : lw_okq (⟨"TrapGateModel", "name", "(I)I"⟩, 28) := ⟨⟨by decide +kernel, by decide +kernel⟩, List.mem_of_getElem? (i := 489) (by decide +kernel), List.mem_of_getElem? (i := 642) (by decide +kernel), List.mem_of_getElem? (i := 643) (by decide +kernel)⟩
theorem lw_p35 : lw_okq (⟨"TrapGateModel", "isName", "(II)Z"⟩, 28) := ⟨⟨by decide +kernel, by decide +kernel⟩, List.mem_of_getElem? (i := 489) (by decide +kernel), List.mem_of_getElem? (i := 646) (by decide +kernel), List.mem_of_getElem? (i := 647) (by decide +kernel)⟩
theorem lw_p36 : lw_okq (⟨"TrapGateModel", "freeDescriptor", "()I"⟩, 28) := ⟨⟨by decide +kernel, by decide +kernel⟩, List.mem_of_getElem? (i := 489) (by decide +kernel), List.mem_of_getElem? (i := 650) (by decide +kernel), List.mem_of_getElem? (i := 651) (by decide +kernel)⟩
theorem lw_p37 : lw_okq (⟨"TrapGateModel", "freeOpen", "()I"⟩, 28) := ⟨⟨by decide +kernel, by decide +kernel⟩, List.mem_of_getElem? (i := 489) (by decide +kernel), List.mem_of_getElem? (i := 654) (by decide +kernel), List.mem_of_getElem? (i := 655) (by decide +kernel)⟩
theorem lw_p38 : lw_okq (⟨"TrapGateModel", "freeFile", "()I"⟩, 28) := ⟨⟨by decide +kernel, by decide +kernel⟩, List.mem_of_getElem? (i := 489) (by decide +kernel), List.mem_of_getElem? (i := 658) (by decide +kernel), List.mem_of_getElem? (i := 659) (by decide +kernel)⟩
theorem lw_p39 : lw_okq (⟨"TrapGateModel", "freeName", "()I"⟩, 28) := ⟨⟨by decide +kernel, by decide +kernel⟩, List.mem_of_getElem? (i := 489) (by decide +kernel), List.mem_of_getElem? (i := 662) (by decide +kernel), List.mem_of_getElem? (i := 663) (by decide +kernel)⟩
theorem lw_p40 : lw_okq (⟨"TrapGateModel", "give", "(III)V"⟩, 28) := ⟨⟨by decide +kernel, by decide +kernel⟩, List.mem_of_getElem? (i := 489) (by decide +kernel), List.mem_of_getElem? (i := 666) (by decide +kernel), List.mem_of_getElem? (i := 667) (by decide +kernel)⟩
theorem lw_p41 : lw_okq (⟨"TrapGateModel", "newOpen", "(IIII)I"⟩, 28) := ⟨⟨by decide +kernel, by decide +kernel⟩, List.mem_of_getElem? (i := 489) (by decide +kernel), List.mem_of_getElem? (i := 670) (by decide +kernel), List.mem_of_getElem? (i := 671) (by decide +kernel)⟩
theorem lw_p42 : lw_okq (⟨"TrapGateModel", "close", "()I"⟩, 28) := ⟨⟨by decide +kernel, by decide +kernel⟩, List.mem_of_getElem? (i := 489) (by decide +kernel), List.mem_of_getElem? (i := 674) (by decide +kernel), List.mem_of_getElem? (i := 675) (by decide +kernel)⟩
theorem lw_p43 : lw_okq (⟨"TrapGateModel", "opened", "()I"⟩, 28) := ⟨⟨by decide +kernel, by decide +kernel⟩, List.mem_of_getElem? (i := 489) (by decide +kernel), List.mem_of_getElem? (i := 678) (by decide +kernel), List.mem_of_getElem? (i := 679) (by decide +kernel)⟩
theorem lw_p44 : lw_okq (⟨"TrapGateModel", "transfer", "(ZZ)I"⟩, 28) := ⟨⟨by decide +kernel, by decide +kernel⟩, List.mem_of_getElem? (i := 489) (by decide +kernel), List.mem_of_getElem? (i := 682) (by decide +kernel), List.mem_of_getElem? (i := 683) (by decide +kernel)⟩
theorem lw_p45 : lw_okq (⟨"TrapGateModel", "gather", "(ZZ)Z"⟩, 28) := ⟨⟨by decide +kernel, by decide +kernel⟩, List.mem_of_getElem? (i := 489) (by decide +kernel), List.mem_of_getElem? (i := 686) (by decide +kernel), List.mem_of_getElem? (i := 687) (by decide +kernel)⟩
theorem lw_p46 : lw_okq (⟨"TrapGateModel", "range", "(III)Z"⟩, 28) := ⟨⟨by decide +kernel, by decide +kernel⟩, List.mem_of_getElem? (i := 489) (by decide +kernel), List.mem_of_getElem? (i := 690) (by decide +kernel), List.mem_of_getElem? (i := 691) (by decide +kernel)⟩
theorem lw_p47 : lw_okq (⟨"TrapGateModel", "take", "()V"⟩, 28) := ⟨⟨by decide +kernel, by decide +kernel⟩, List.mem_of_getElem? (i := 489) (by decide +kernel), List.mem_of_getElem? (i := 694) (by decide +kernel), List.mem_of_getElem? (i := 695) (by decide +kernel)⟩
def lw_privs_3 : List (MethodName × Nat) := [(⟨"TrapGateModel", "string", "(II)Z"⟩, 28), (⟨"TrapGateModel", "place", "(II)I"⟩, 28), (⟨"TrapGateModel", "name", "(I)I"⟩, 28), (⟨"TrapGateModel", "isName", "(II)Z"⟩, 28), (⟨"TrapGateModel", "freeDescriptor", "()I"⟩, 28), (⟨"TrapGateModel", "freeOpen", "()I"⟩, 28), (⟨"TrapGateModel", "freeFile", "()I"⟩, 28), (⟨"TrapGateModel", "freeName", "()I"⟩, 28), (⟨"TrapGateModel", "give", "(III)V"⟩, 28), (⟨"TrapGateModel", "newOpen", "(IIII)I"⟩, 28), (⟨"TrapGateModel", "close", "()I"⟩, 28), (⟨"TrapGateModel", "opened", "()I"⟩, 28), (⟨"TrapGateModel", "transfer", "(ZZ)I"⟩, 28), (⟨"TrapGateModel", "gather", "(ZZ)Z"⟩, 28), (⟨"TrapGateModel", "range", "(III)Z"⟩, 28), (⟨"TrapGateModel", "take", "()V"⟩, 28)]
theorem lw_r3 : ∀ q ∈ lw_privs_3, lw_okq q := List.forall_mem_cons.mpr ⟨lw_p32, List.forall_mem_cons.mpr ⟨lw_p33, List.forall_mem_cons.mpr ⟨lw_p34, List.forall_mem_cons.mpr ⟨lw_p35, List.forall_mem_cons.mpr ⟨lw_p36, List.forall_mem_cons.mpr ⟨lw_p37, List.forall_mem_cons.mpr ⟨lw_p38, List.forall_mem_cons.mpr ⟨lw_p39, List.forall_mem_cons.mpr ⟨lw_p40, List.forall_mem_cons.mpr ⟨lw_p41, List.forall_mem_cons.mpr ⟨lw_p42, List.forall_mem_cons.mpr ⟨lw_p43, List.forall_mem_cons.mpr ⟨lw_p44, List.forall_mem_cons.mpr ⟨lw_p45, List.forall_mem_cons.mpr ⟨lw_p46, List.forall_mem_cons.mpr ⟨lw_p47, fun _ h => absurd h List.not_mem_nil⟩⟩⟩⟩⟩⟩⟩⟩⟩⟩⟩⟩⟩⟩⟩⟩
theorem lw_p48 : lw_okq (⟨"TrapGateModel", "toFile", "(I)I"⟩, 28) := ⟨⟨by decide +kernel, by decide +kernel⟩, List.mem_of_getElem? (i := 489) (by decide +kernel), List.mem_of_getElem? (i := 698) (by decide +kernel), List.mem_of_getElem? (i := 699) (by decide +kernel)⟩
theorem lw_p49 : lw_okq (⟨"TrapGateModel", "toPipe", "(I)I"⟩, 28) := ⟨⟨by decide +kernel, by decide +kernel⟩, List.mem_of_getElem? (i := 489) (by decide +kernel), List.mem_of_getElem? (i := 702) (by decide +kernel), List.mem_of_getElem? (i := 703) (by decide +kernel)⟩
theorem lw_p50 : lw_okq (⟨"TrapGateModel", "opensOf", "(II)I"⟩, 28) := ⟨⟨by decide +kernel, by decide +kernel⟩, List.mem_of_getElem? (i := 489) (by decide +kernel), List.mem_of_getElem? (i := 706) (by decide +kernel), List.mem_of_getElem? (i := 707) (by decide +kernel)⟩
theorem lw_p51 : lw_okq (⟨"TrapGateModel", "fromFile", "(I)I"⟩, 28) := ⟨⟨by decide +kernel, by decide +kernel⟩, List.mem_of_getElem? (i := 489) (by decide +kernel), List.mem_of_getElem? (i := 710) (by decide +kernel), List.mem_of_getElem? (i := 711) (by decide +kernel)⟩
theorem lw_p52 : lw_okq (⟨"TrapGateModel", "fromPipe", "(I)I"⟩, 28) := ⟨⟨by decide +kernel, by decide +kernel⟩, List.mem_of_getElem? (i := 489) (by decide +kernel), List.mem_of_getElem? (i := 714) (by decide +kernel), List.mem_of_getElem? (i := 715) (by decide +kernel)⟩
theorem lw_p53 : lw_okq (⟨"TrapGateModel", "seek", "()I"⟩, 28) := ⟨⟨by decide +kernel, by decide +kernel⟩, List.mem_of_getElem? (i := 489) (by decide +kernel), List.mem_of_getElem? (i := 718) (by decide +kernel), List.mem_of_getElem? (i := 719) (by decide +kernel)⟩
theorem lw_p54 : lw_okq (⟨"TrapGateModel", "dup", "()I"⟩, 28) := ⟨⟨by decide +kernel, by decide +kernel⟩, List.mem_of_getElem? (i := 489) (by decide +kernel), List.mem_of_getElem? (i := 722) (by decide +kernel), List.mem_of_getElem? (i := 723) (by decide +kernel)⟩
theorem lw_p55 : lw_okq (⟨"TrapGateModel", "unlink", "()I"⟩, 28) := ⟨⟨by decide +kernel, by decide +kernel⟩, List.mem_of_getElem? (i := 489) (by decide +kernel), List.mem_of_getElem? (i := 726) (by decide +kernel), List.mem_of_getElem? (i := 727) (by decide +kernel)⟩
theorem lw_p56 : lw_okq (⟨"TrapGateModel", "second", "(I)I"⟩, 28) := ⟨⟨by decide +kernel, by decide +kernel⟩, List.mem_of_getElem? (i := 489) (by decide +kernel), List.mem_of_getElem? (i := 730) (by decide +kernel), List.mem_of_getElem? (i := 731) (by decide +kernel)⟩
theorem lw_p57 : lw_okq (⟨"TrapGateModel", "link", "()I"⟩, 28) := ⟨⟨by decide +kernel, by decide +kernel⟩, List.mem_of_getElem? (i := 489) (by decide +kernel), List.mem_of_getElem? (i := 734) (by decide +kernel), List.mem_of_getElem? (i := 735) (by decide +kernel)⟩
theorem lw_p58 : lw_okq (⟨"TrapGateModel", "strings", "()Z"⟩, 28) := ⟨⟨by decide +kernel, by decide +kernel⟩, List.mem_of_getElem? (i := 489) (by decide +kernel), List.mem_of_getElem? (i := 738) (by decide +kernel), List.mem_of_getElem? (i := 739) (by decide +kernel)⟩
theorem lw_p59 : lw_okq (⟨"TrapGateModel", "stat", "()I"⟩, 28) := ⟨⟨by decide +kernel, by decide +kernel⟩, List.mem_of_getElem? (i := 489) (by decide +kernel), List.mem_of_getElem? (i := 742) (by decide +kernel), List.mem_of_getElem? (i := 743) (by decide +kernel)⟩
theorem lw_p60 : lw_okq (⟨"TrapGateModel", "namesOf", "(I)I"⟩, 28) := ⟨⟨by decide +kernel, by decide +kernel⟩, List.mem_of_getElem? (i := 489) (by decide +kernel), List.mem_of_getElem? (i := 746) (by decide +kernel), List.mem_of_getElem? (i := 747) (by decide +kernel)⟩
theorem lw_p61 : lw_okq (⟨"TrapGateModel", "pipes", "()I"⟩, 28) := ⟨⟨by decide +kernel, by decide +kernel⟩, List.mem_of_getElem? (i := 489) (by decide +kernel), List.mem_of_getElem? (i := 750) (by decide +kernel), List.mem_of_getElem? (i := 751) (by decide +kernel)⟩
theorem lw_p62 : lw_okq (⟨"TrapGateModel", "list", "()I"⟩, 28) := ⟨⟨by decide +kernel, by decide +kernel⟩, List.mem_of_getElem? (i := 489) (by decide +kernel), List.mem_of_getElem? (i := 762) (by decide +kernel), List.mem_of_getElem? (i := 763) (by decide +kernel)⟩
theorem lw_p63 : lw_okq (⟨"TrapGateModel", "before", "(II)Z"⟩, 28) := ⟨⟨by decide +kernel, by decide +kernel⟩, List.mem_of_getElem? (i := 489) (by decide +kernel), List.mem_of_getElem? (i := 766) (by decide +kernel), List.mem_of_getElem? (i := 767) (by decide +kernel)⟩
def lw_privs_4 : List (MethodName × Nat) := [(⟨"TrapGateModel", "toFile", "(I)I"⟩, 28), (⟨"TrapGateModel", "toPipe", "(I)I"⟩, 28), (⟨"TrapGateModel", "opensOf", "(II)I"⟩, 28), (⟨"TrapGateModel", "fromFile", "(I)I"⟩, 28), (⟨"TrapGateModel", "fromPipe", "(I)I"⟩, 28), (⟨"TrapGateModel", "seek", "()I"⟩, 28), (⟨"TrapGateModel", "dup", "()I"⟩, 28), (⟨"TrapGateModel", "unlink", "()I"⟩, 28), (⟨"TrapGateModel", "second", "(I)I"⟩, 28), (⟨"TrapGateModel", "link", "()I"⟩, 28), (⟨"TrapGateModel", "strings", "()Z"⟩, 28), (⟨"TrapGateModel", "stat", "()I"⟩, 28), (⟨"TrapGateModel", "namesOf", "(I)I"⟩, 28), (⟨"TrapGateModel", "pipes", "()I"⟩, 28), (⟨"TrapGateModel", "list", "()I"⟩, 28), (⟨"TrapGateModel", "before", "(II)Z"⟩, 28)]
theorem lw_r4 : ∀ q ∈ lw_privs_4, lw_okq q := List.forall_mem_cons.mpr ⟨lw_p48, List.forall_mem_cons.mpr ⟨lw_p49, List.forall_mem_cons.mpr ⟨lw_p50, List.forall_mem_cons.mpr ⟨lw_p51, List.forall_mem_cons.mpr ⟨lw_p52, List.forall_mem_cons.mpr ⟨lw_p53, List.forall_mem_cons.mpr ⟨lw_p54, List.forall_mem_cons.mpr ⟨lw_p55, List.forall_mem_cons.mpr ⟨lw_p56, List.forall_mem_cons.mpr ⟨lw_p57, List.forall_mem_cons.mpr ⟨lw_p58, List.forall_mem_cons.mpr ⟨lw_p59, List.forall_mem_cons.mpr ⟨lw_p60, List.forall_mem_cons.mpr ⟨lw_p61, List.forall_mem_cons.mpr ⟨lw_p62, List.forall_mem_cons.mpr ⟨lw_p63, fun _ h => absurd h List.not_mem_nil⟩⟩⟩⟩⟩⟩⟩⟩⟩⟩⟩⟩⟩⟩⟩⟩
theorem lw_p64 : lw_okq (⟨"TrapGateModel", "copy", "()I"⟩, 28) := ⟨⟨by decide +kernel, by decide +kernel⟩, List.mem_of_getElem? (i := 489) (by decide +kernel), List.mem_of_getElem? (i := 770) (by decide +kernel), List.mem_of_getElem? (i := 771) (by decide +kernel)⟩
theorem lw_p65 : lw_okq (⟨"TrapGateModel", "protect", "()I"⟩, 28) := ⟨⟨by decide +kernel, by decide +kernel⟩, List.mem_of_getElem? (i := 489) (by decide +kernel), List.mem_of_getElem? (i := 774) (by decide +kernel), List.mem_of_getElem? (i := 775) (by decide +kernel)⟩
theorem lw_p66 : lw_okq (⟨"TrapGateModel", "rename", "()I"⟩, 28) := ⟨⟨by decide +kernel, by decide +kernel⟩, List.mem_of_getElem? (i := 489) (by decide +kernel), List.mem_of_getElem? (i := 778) (by decide +kernel), List.mem_of_getElem? (i := 779) (by decide +kernel)⟩
theorem lw_p67 : lw_okq (⟨"TrapGateModel", "sweep", "()V"⟩, 28) := ⟨⟨by decide +kernel, by decide +kernel⟩, List.mem_of_getElem? (i := 489) (by decide +kernel), List.mem_of_getElem? (i := 782) (by decide +kernel), List.mem_of_getElem? (i := 783) (by decide +kernel)⟩
def lw_privs_5 : List (MethodName × Nat) := [(⟨"TrapGateModel", "copy", "()I"⟩, 28), (⟨"TrapGateModel", "protect", "()I"⟩, 28), (⟨"TrapGateModel", "rename", "()I"⟩, 28), (⟨"TrapGateModel", "sweep", "()V"⟩, 28)]
theorem lw_r5 : ∀ q ∈ lw_privs_5, lw_okq q := List.forall_mem_cons.mpr ⟨lw_p64, List.forall_mem_cons.mpr ⟨lw_p65, List.forall_mem_cons.mpr ⟨lw_p66, List.forall_mem_cons.mpr ⟨lw_p67, fun _ h => absurd h List.not_mem_nil⟩⟩⟩⟩
def lw_privs : List (MethodName × Nat) := lw_privs_1 ++ (lw_privs_2 ++ (lw_privs_3 ++ (lw_privs_4 ++ (lw_privs_5))))
def lw_tbl : List Cond := k2_sels lw_privs ++ tables_1
theorem lw_privs_ok : ∀ q ∈ lw_privs, lw_okq q := by
  show ∀ q ∈ lw_privs_1 ++ (lw_privs_2 ++ (lw_privs_3 ++ (lw_privs_4 ++ (lw_privs_5)))), lw_okq q
  exact List.forall_mem_append.mpr ⟨lw_r1, List.forall_mem_append.mpr ⟨lw_r2, List.forall_mem_append.mpr ⟨lw_r3, List.forall_mem_append.mpr ⟨lw_r4, lw_r5⟩⟩⟩⟩
end
section
/-! The tables' words that a method may hand to those that it calls (o_TT), the words between nest mates (o_NW), the kinds of objects (o_cl). -/
def o_TT : List Cond := lw_tbl.filter goodWord
def o_isN (w : Cond) : Bool := match w with
  | .fieldLinkNest _ _ _ _ _ _ => true
  | .methodLinkNest _ _ _ _ => true
  | _ => false
def o_NW : List Cond := lw_tbl.filter o_isN
def o_AO : List String := ["TrapGate$StoredFile", "TrapGate$Pipe"]
theorem o_TT_good (w : Cond) (h : w ∈ o_TT) : (w.onTables && w.keeps) = true ∨ ∃ ty, w = .arrayClass ty := good_of_word (List.mem_filter.mp h).2
theorem o_NW_tab (w : Cond) (h : w ∈ o_NW) : w.onTables = true := by
  have h2 := (List.mem_filter.mp h).2
  cases w <;> first | rfl | (simp [o_isN] at h2; done)
theorem o_NW_warm {s U : State} (w : Cond) (h : w ∈ o_NW) (hW : s.WarmedH U.vm) (hZ : va_Nw w s) : va_Nw w U := by
  have h2 := (List.mem_filter.mp h).2
  cases w <;> first | exact va_Nw.warmF hW hZ | exact va_Nw.warmM hW hZ | (simp [o_isN] at h2; done)
theorem o_inT {w : Cond} (i : Nat) (h : lw_tbl[i]? = some w) (hg : goodWord w = true) : w ∈ o_TT := List.mem_filter.mpr ⟨List.mem_of_getElem? h, hg⟩
theorem o_inN {w : Cond} (i : Nat) (h : lw_tbl[i]? = some w) (hg : o_isN w = true) : w ∈ o_NW := List.mem_filter.mpr ⟨List.mem_of_getElem? h, hg⟩
def RX0 : String := "TrapGate$Memory"
def TX0 : u_T := fun k => match k with
  | 0 => ("TrapGate$Memory", "bytes", "[I", true)
  | _ => ("TrapGate$Memory", "entries", "[I", true)
def tyX0 : Nat → FieldType := fun k => match k with
  | 0 => .array .int
  | _ => .array .int
theorem nmX0 : ∀ a, a < 2 → ∀ b, b < 2 → a ≠ b → (TX0 a).2.1 ≠ (TX0 b).2.1 := by decide +kernel
theorem tyX0_ok : ∀ k, k < 2 → parseFieldDescriptor (TX0 k).2.2.1 = some (tyX0 k) := by decide +kernel
def RX1 : String := "TrapGate$Names"
def TX1 : u_T := fun k => match k with
  | 0 => ("TrapGate$Names", "texts", "[J", true)
  | 1 => ("TrapGate$Names", "files", "[I", true)
  | _ => ("TrapGate$Names", "size", "I", false)
def tyX1 : Nat → FieldType := fun k => match k with
  | 0 => .array .long
  | 1 => .array .int
  | _ => .int
theorem nmX1 : ∀ a, a < 3 → ∀ b, b < 3 → a ≠ b → (TX1 a).2.1 ≠ (TX1 b).2.1 := by decide +kernel
theorem tyX1_ok : ∀ k, k < 3 → parseFieldDescriptor (TX1 k).2.2.1 = some (tyX1 k) := by decide +kernel
def RX2 : String := "TrapGate$Opens"
def TX2 : u_T := fun k => match k with
  | 0 => ("TrapGate$Opens", "standsFor", "[I", true)
  | 1 => ("TrapGate$Opens", "holders", "[I", true)
  | 2 => ("TrapGate$Opens", "targets", "[I", true)
  | 3 => ("TrapGate$Opens", "modes", "[I", true)
  | _ => ("TrapGate$Opens", "positions", "[I", true)
def tyX2 : Nat → FieldType := fun k => match k with
  | 0 => .array .int
  | 1 => .array .int
  | 2 => .array .int
  | 3 => .array .int
  | _ => .array .int
theorem nmX2 : ∀ a, a < 5 → ∀ b, b < 5 → a ≠ b → (TX2 a).2.1 ≠ (TX2 b).2.1 := by decide +kernel
theorem tyX2_ok : ∀ k, k < 5 → parseFieldDescriptor (TX2 k).2.2.1 = some (tyX2 k) := by decide +kernel
def RX3 : String := "TrapGate$Pipe"
def TX3 : u_T := fun k => match k with
  | 0 => ("TrapGate$Pipe", "bytes", "[I", true)
  | _ => ("TrapGate$Pipe", "size", "I", false)
def tyX3 : Nat → FieldType := fun k => match k with
  | 0 => .array .int
  | _ => .int
theorem nmX3 : ∀ a, a < 2 → ∀ b, b < 2 → a ≠ b → (TX3 a).2.1 ≠ (TX3 b).2.1 := by decide +kernel
theorem tyX3_ok : ∀ k, k < 2 → parseFieldDescriptor (TX3 k).2.2.1 = some (tyX3 k) := by decide +kernel
def RX4 : String := "TrapGate$Ranges"
def TX4 : u_T := fun k => match k with
  | 0 => ("TrapGate$Ranges", "starts", "[I", true)
  | 1 => ("TrapGate$Ranges", "lengths", "[I", true)
  | _ => ("TrapGate$Ranges", "size", "I", false)
def tyX4 : Nat → FieldType := fun k => match k with
  | 0 => .array .int
  | 1 => .array .int
  | _ => .int
theorem nmX4 : ∀ a, a < 3 → ∀ b, b < 3 → a ≠ b → (TX4 a).2.1 ≠ (TX4 b).2.1 := by decide +kernel
theorem tyX4_ok : ∀ k, k < 3 → parseFieldDescriptor (TX4 k).2.2.1 = some (tyX4 k) := by decide +kernel
def RX5 : String := "TrapGate$StoredFile"
def TX5 : u_T := fun k => match k with
  | 0 => ("TrapGate$StoredFile", "bytes", "[I", true)
  | _ => ("TrapGate$StoredFile", "length", "I", false)
def tyX5 : Nat → FieldType := fun k => match k with
  | 0 => .array .int
  | _ => .int
theorem nmX5 : ∀ a, a < 2 → ∀ b, b < 2 → a ≠ b → (TX5 a).2.1 ≠ (TX5 b).2.1 := by decide +kernel
theorem tyX5_ok : ∀ k, k < 2 → parseFieldDescriptor (TX5 k).2.2.1 = some (tyX5 k) := by decide +kernel
def RX6 : String := "TrapGate"
def TX6 : u_T := fun k => match k with
  | 0 => ("TrapGate", "memory", "LTrapGate$Memory;", true)
  | 1 => ("TrapGate", "registers", "[I", true)
  | 2 => ("TrapGate", "names", "LTrapGate$Names;", true)
  | 3 => ("TrapGate", "opens", "LTrapGate$Opens;", true)
  | 4 => ("TrapGate", "files", "[LTrapGate$StoredFile;", true)
  | 5 => ("TrapGate", "pipes", "[LTrapGate$Pipe;", true)
  | 6 => ("TrapGate", "ranges", "LTrapGate$Ranges;", true)
  | 7 => ("TrapGate", "buffer", "[I", true)
  | _ => ("TrapGate", "trapsMade", "I", false)
def tyX6 : Nat → FieldType := fun k => match k with
  | 0 => .object "TrapGate$Memory"
  | 1 => .array .int
  | 2 => .object "TrapGate$Names"
  | 3 => .object "TrapGate$Opens"
  | 4 => .array (.object "TrapGate$StoredFile")
  | 5 => .array (.object "TrapGate$Pipe")
  | 6 => .object "TrapGate$Ranges"
  | 7 => .array .int
  | _ => .int
theorem nmX6 : ∀ a, a < 9 → ∀ b, b < 9 → a ≠ b → (TX6 a).2.1 ≠ (TX6 b).2.1 := by decide +kernel
theorem tyX6_ok : ∀ k, k < 9 → parseFieldDescriptor (TX6 k).2.2.1 = some (tyX6 k) := by decide +kernel
def RX7 : String := "TrapGateModel"
def TX7 : u_T := fun k => match k with
  | 0 => ("TrapGateModel", "memory", "[I", true)
  | 1 => ("TrapGateModel", "frames", "[I", true)
  | 2 => ("TrapGateModel", "flags", "[I", true)
  | 3 => ("TrapGateModel", "registers", "[I", true)
  | 4 => ("TrapGateModel", "traps", "I", false)
  | 5 => ("TrapGateModel", "file", "[Z", true)
  | 6 => ("TrapGateModel", "size", "[I", true)
  | 7 => ("TrapGateModel", "data", "[I", true)
  | 8 => ("TrapGateModel", "nameSize", "[I", true)
  | 9 => ("TrapGateModel", "nameBytes", "[I", true)
  | 10 => ("TrapGateModel", "nameFile", "[I", true)
  | 11 => ("TrapGateModel", "kind", "[I", true)
  | 12 => ("TrapGateModel", "of", "[I", true)
  | 13 => ("TrapGateModel", "position", "[I", true)
  | 14 => ("TrapGateModel", "mode", "[I", true)
  | 15 => ("TrapGateModel", "pipe", "[Z", true)
  | 16 => ("TrapGateModel", "held", "[I", true)
  | 17 => ("TrapGateModel", "inPipe", "[I", true)
  | 18 => ("TrapGateModel", "descriptor", "[I", true)
  | 19 => ("TrapGateModel", "who", "I", false)
  | 20 => ("TrapGateModel", "a0", "I", false)
  | 21 => ("TrapGateModel", "a1", "I", false)
  | 22 => ("TrapGateModel", "a2", "I", false)
  | 23 => ("TrapGateModel", "spots", "I", false)
  | 24 => ("TrapGateModel", "spot", "[I", true)
  | 25 => ("TrapGateModel", "taken", "[I", true)
  | 26 => ("TrapGateModel", "text", "[I", true)
  | _ => ("TrapGateModel", "textSize", "[I", true)
def tyX7 : Nat → FieldType := fun k => match k with
  | 0 => .array .int
  | 1 => .array .int
  | 2 => .array .int
  | 3 => .array .int
  | 4 => .int
  | 5 => .array .boolean
  | 6 => .array .int
  | 7 => .array .int
  | 8 => .array .int
  | 9 => .array .int
  | 10 => .array .int
  | 11 => .array .int
  | 12 => .array .int
  | 13 => .array .int
  | 14 => .array .int
  | 15 => .array .boolean
  | 16 => .array .int
  | 17 => .array .int
  | 18 => .array .int
  | 19 => .int
  | 20 => .int
  | 21 => .int
  | 22 => .int
  | 23 => .int
  | 24 => .array .int
  | 25 => .array .int
  | 26 => .array .int
  | _ => .array .int
theorem nmX7 : ∀ a, a < 28 → ∀ b, b < 28 → a ≠ b → (TX7 a).2.1 ≠ (TX7 b).2.1 := by decide +kernel
theorem tyX7_ok : ∀ k, k < 28 → parseFieldDescriptor (TX7 k).2.2.1 = some (tyX7 k) := by decide +kernel
abbrev o_cl : List vw_C := [(RX0, TX0, 2), (RX1, TX1, 3), (RX2, TX2, 5), (RX3, TX3, 2), (RX4, TX4, 3), (RX5, TX5, 2), (RX6, TX6, 9), (RX7, TX7, 28)]
end
section
/-! The pure machine. A cell is an array (number of its type, length, contents) or an object (number of its kind, fields); a heap is the list of the cells in the order of their making; the value .ref (k + 1) stands for cell k, .ref 0 for the law's script. G: (launch, the script's cell, its length, the script, numbers and slots of the kinds of objects, of the kinds of arrays, the heap at the law's entry). -/
abbrev oE : Type := (Nat × vp_A) ⊕ (Nat × List Value)
abbrev oH : Type := List oE
abbrev oL : Type := List (Nat × Value)
abbrev oG : Type := Launch × Nat × Nat × (Nat → Int32) × va_G × (Nat → ClassId) × Heap
abbrev gl (G : oG) : Launch := G.1
abbrev gb (G : oG) : Nat := G.2.1
abbrev gn (G : oG) : Nat := G.2.2.1
abbrev gx (G : oG) : Nat → Int32 := G.2.2.2.1
abbrev gD (G : oG) : va_G := G.2.2.2.2.1
abbrev gA (G : oG) : Nat → ClassId := G.2.2.2.2.2.1
abbrev gH (G : oG) : Heap := G.2.2.2.2.2.2
/-- M: a method: (name, bytes, number of locals, what it returns, frames below it, room for their locals) -/
abbrev oM : Type := MethodName × ByteArray × Nat × Option FieldType × Nat × Nat
abbrev mY (M : oM) : MethodName := M.1
abbrev mC (M : oM) : ByteArray := M.2.1
abbrev mL (M : oM) : Nat := M.2.2.1
abbrev mR (M : oM) : Option FieldType := M.2.2.2.1
abbrev mD (M : oM) : Nat := M.2.2.2.2.1
abbrev mQ (M : oM) : Nat := M.2.2.2.2.2
abbrev oP : Type := Option Value → oH → Prop
abbrev oK : Type := Nat → Nat → oL → List Value → oH → Prop
def o_ad (G : oG) (a : Nat) : Nat := match a with
  | 0 => gb G
  | k + 1 => (gH G).size + k
def o_rl (G : oG) (v : Value) : Value := match v with
  | .int x => .int x
  | .long x => .long x
  | .float x => .float x
  | .double x => .double x
  | .null => .null
  | .ref a => .ref (o_ad G a)
  | .retAddr x => .retAddr x
def o_rX (G : oG) (x : (Nat → Int32) ⊕ (Nat → Int64) ⊕ (Nat → UInt32) ⊕ (Nat → UInt64) ⊕ (Nat → Option Nat)) : (Nat → Int32) ⊕ (Nat → Int64) ⊕ (Nat → UInt32) ⊕ (Nat → UInt64) ⊕ (Nat → Option Nat) := match x with
  | .inl f => .inl f
  | .inr (.inl f) => .inr (.inl f)
  | .inr (.inr (.inl f)) => .inr (.inr (.inl f))
  | .inr (.inr (.inr (.inl f))) => .inr (.inr (.inr (.inl f)))
  | .inr (.inr (.inr (.inr f))) => .inr (.inr (.inr (.inr (fun j => (f j).map (o_ad G)))))
def o_rE (G : oG) (e : oE) : va_E := match e with
  | .inl a => .inl (gA G a.1, a.2.1, o_rX G a.2.2)
  | .inr o => .inr (o.1, o.2.map (o_rl G))
def o_rL (G : oG) (L : oL) : List (Nat × Value) := L.map fun q => (q.1, o_rl G q.2)
def o_ws (G : oG) (h : oH) : va_W := h.mapIdx fun k e => ((gH G).size + k, o_rE G e)
def o_A (G : oG) : Nat → Prop := fun q => (gH G).size ≤ q
def o_tys (G : oG) : List (ClassId × FieldType) := [(gA G 0, .int), (gA G 1, .long), (gA G 2, .boolean), (gA G 3, .object "TrapGate$StoredFile"), (gA G 4, .object "TrapGate$Pipe")]
def o_Wd (G : oG) (h : oH) (H : Heap) (locs : List Loc) : Prop := va_P (gD G) o_cl (o_ws G h) H ∧ va_D (o_A G) (o_ws G h) ∧ va_S (o_A G) (gH G) H locs ∧ H.size = (gH G).size + h.length
def o_Sf (G : oG) (U : State) : Prop := va_K (gD G) o_cl (o_tys G) U ∧ va_X (gb G) (gn G) (gx G) U (gH G) ∧ gb G < (gH G).size ∧ (∀ w ∈ o_NW, va_Nw w U) ∧ ∀ C ∈ o_AO, va_AO C U
def o_rets (M : oM) (pc : Nat) (v : Option Value) : Prop := match v with
  | none => mR M = none ∧ decode (mC M) pc = .ok (.return_, 1)
  | some (.int x) => (∃ ty, mR M = some ty ∧ narrow ty (.int x) = .int x) ∧ decode (mC M) pc = .ok (.ireturn, 1)
  | some (.long _) => mR M = some .long ∧ decode (mC M) pc = .ok (.lreturn, 1)
  | some _ => False
def o_Env (G : oG) (M : oM) (Post : oP) (p : Program) (e : Env) (R : Room) (s : State) (m : MethodId) (args : Array Value) (below : List Frame) (meth : Method) (c : Code) (Q : State → Prop) : Prop :=
  p.tables.exec = Jvm.exec ∧ c.code = mC M ∧ c.maxLocals = mL M ∧ s.vm.findClass (mY M).cls = some m.cls ∧ meth.name = (mY M).name ∧ (∀ w ∈ o_TT, w.before args s = true) ∧ mD M ≤ R.frames ∧ mQ M ≤ R.locals ∧ o_Sf G s ∧
  ∀ (v : Option Value) (h : oH) (H : Heap) (locs : List Loc) (ls : Array Slot) (pc cells slots : Nat), Post v h → o_Wd G h H locs → cells ≤ R.cells → slots ≤ R.slots → o_rets M pc v → W p (gl G) e R s m args below meth c H locs cells slots Q (F0 m pc ls (v.toList.map (o_rl G)))
/-- from pc of the method M, with locals L, stack st and heap h, at most c cells of s slots being made, the method returns what Post says -/
def Wp (G : oG) (M : oM) (Post : oP) (pc : Nat) (c s : Nat) (L : oL) (st : List Value) (h : oH) : Prop :=
  ∀ (p : Program) (e : Env) (R : Room) (s0 : State) (m : MethodId) (args : Array Value) (below : List Frame) (meth : Method) (cd : Code) (Q : State → Prop) (H : Heap) (locs : List Loc) (cells slots : Nat) (ls : Array Slot),
    o_Env G M Post p e R s0 m args below meth cd Q → o_Wd G h H locs → cells + c ≤ R.cells → slots + s ≤ R.slots → lv_has ls (mL M) (o_rL G L) → W p (gl G) e R s0 m args below meth cd H locs cells slots Q (F0 m pc ls (st.map (o_rl G)))
/-- a stretch of code, as a condition on where it begins, is right at pc -/
def oS (G : oG) (M : oM) (Post : oP) (pc : Nat) (K : oK) : Prop := ∀ (c s : Nat) (L : oL) (st : List Value) (h : oH), K c s L st h → Wp G M Post pc c s L st h
abbrev mW (M : oM) : Cond := .code (mY M) (mC M) (mL M) (mR M)
abbrev mRm (M : oM) (mc ms : Nat) : Room := { frames := mD M, cells := mc, slots := ms, locals := mQ M }
def o_Pc (G : oG) (as : List Value) (h : oH) : Array Value → State → Prop := fun a U => a = (as.map (o_rl G)).toArray ∧ o_Wd G h U.heap [] ∧ o_Sf G U
def o_Qc (G : oG) (Post : oP) : Array Value → State → Outcome → State → Prop := fun _ _ o t => ∃ (v : Option Value) (h' : oH), Post v h' ∧ o = .returned (v.map (o_rl G)) ∧ o_Wd G h' t.heap []
/-- the contract: on these arguments and this heap M returns what Post says, and makes at most mc cells of ms slots -/
def Mt (G : oG) (M : oM) (as : List Value) (h : oH) (mc ms : Nat) (Post : oP) : Prop :=
  Met (gl G) (mY M) (mW M :: o_TT) (mRm M mc ms) (o_Pc G as h) (o_Qc G Post) mc ms (o_A G)
-- small facts
theorem o_cat (G : oG) (v : Value) : (o_rl G v).category = v.category := by cases v <;> rfl
theorem o_ws_len (G : oG) (h : oH) : (o_ws G h).length = h.length := by simp [o_ws]
theorem o_ws_at {G : oG} {h : oH} {k : Nat} {e : oE} (hk : h[k]? = some e) : (o_ws G h)[k]? = some ((gH G).size + k, o_rE G e) := by simp [o_ws, hk]
theorem o_ws_set (G : oG) (h : oH) (k : Nat) (e : oE) : o_ws G (h.set k e) = (o_ws G h).set k ((gH G).size + k, o_rE G e) := by
  apply List.ext_getElem?
  intro j
  by_cases hj : k = j
  · subst hj
    by_cases hl : k < h.length
    · rw [List.getElem?_set_self (by rw [o_ws_len]; exact hl)]
      exact o_ws_at (List.getElem?_set_self hl)
    · rw [List.getElem?_eq_none (by rw [o_ws_len, List.length_set]; omega), List.getElem?_eq_none (by rw [List.length_set, o_ws_len]; omega)]
  · rw [List.getElem?_set_ne hj]
    simp only [o_ws, List.getElem?_mapIdx, List.getElem?_set_ne hj]
theorem o_ws_app (G : oG) (h : oH) (e : oE) : o_ws G (h ++ [e]) = o_ws G h ++ [((gH G).size + h.length, o_rE G e)] := by
  simp [o_ws, List.mapIdx_append]
theorem o_Wd.set {G : oG} {h : oH} {H H1 : Heap} {locs : List Loc} {k i : Nat} {e0 e : oE} (hW : o_Wd G h H locs) (hk : h[k]? = some e0) (he : va_at (gD G) o_cl ((gH G).size + k, o_rE G e) H1) (z : H1.size = H.size) (oq : ∀ q : Nat, q ≠ (gH G).size + k → H1[q]? = H[q]?) : o_Wd G (h.set k e) H1 (locs ++ [⟨(gH G).size + k, i⟩]) := by
  obtain ⟨hP, hD, hS, hz⟩ := hW
  have hk' := o_ws_at (G := G) hk
  unfold o_Wd
  rw [o_ws_set]
  exact ⟨hP.set hD hk' he oq, hD.set hk', hS.put z oq (hD.2 k _ hk'), by rw [z, hz, List.length_set]⟩
theorem o_Wd.push {G : oG} {h : oH} {H H1 : Heap} {locs : List Loc} {e : oE} (hW : o_Wd G h H locs) (he : va_at (gD G) o_cl (H.size, o_rE G e) H1) (z : H1.size = H.size + 1) (oq : ∀ q : Nat, q < H.size → H1[q]? = H[q]?) : o_Wd G (h ++ [e]) H1 locs := by
  obtain ⟨hP, hD, hS, hz⟩ := hW
  unfold o_Wd
  rw [o_ws_app, ← hz]
  have hk : ∀ (k : Nat) (x : Nat × va_E), (o_ws G h)[k]? = some x → H1[x.1]? = H[x.1]? := fun k x hx => oq x.1 ((hP k x hx).lt)
  refine ⟨(hP.kept hk).app (fun k x hx => ?_), hD.push hP rfl hS.1, ⟨Nat.le_trans hS.1 (by omega), fun x h1 h2 => (oq x (Nat.lt_of_lt_of_le h1 hS.1)).trans (hS.2.1 x h1 h2), hS.2.2⟩, by rw [z, hz, List.length_append]; rfl⟩
  have hz : k < 1 := (List.getElem?_eq_some_iff.mp hx).1
  rw [show k = 0 by omega] at hx
  cases hx
  exact he
theorem o_Wd.forget {G : oG} {h : oH} {H : Heap} {locs : List Loc} (hW : o_Wd G h H locs) : o_Wd G h H [] := ⟨hW.1, hW.2.1, ⟨hW.2.2.1.1, hW.2.2.1.2.1, fun _ h => absurd h List.not_mem_nil⟩, hW.2.2.2⟩
theorem o_Sf.same {G : oG} {u U : State} (h : u.vm = U.vm) (hS : o_Sf G u) : o_Sf G U := by
  obtain ⟨h1, h2, h3, h4, h5⟩ := hS
  have ha : u.vm.Alike U.vm := by rw [h]; exact Vm.Alike.refl _
  exact ⟨h1.moved ha, h2.moved ha, h3, fun w hw => va_Nw.same (o_NW_tab w hw) h (h4 w hw), fun C hC => (h5 C hC).moved ha⟩
theorem o_Sf.warm {G : oG} {s U : State} (hW : s.WarmedH U.vm) (hS : o_Sf G s) : o_Sf G U := by
  obtain ⟨h1, h2, h3, h4, h5⟩ := hS
  exact ⟨h1.moved hW.alike, h2.moved hW.alike, h3, fun w hw => o_NW_warm w hw hW (h4 w hw), fun C hC => (h5 C hC).moved hW.alike⟩
theorem o_blind (G : oG) (as : List Value) (h : oH) : FrameBlind (o_Pc G as h) := fun a U g mk ⟨h1, h2, h3⟩ => ⟨h1, h2, o_Sf.same (u := U) (U := U.calling g mk a) rfl h3⟩
end
section
/-! The instructions of the pure machine, each with the row that says it is the machine's. -/
def o_c2 (v : Value) : Bool := match v with
  | .long _ => true
  | .double _ => true
  | _ => false
theorem o_c2_1 {v : Value} (h : o_c2 v = false) : v.category = 1 := by cases v <;> first | rfl | simp [o_c2] at h
theorem o_c2_t {v : Value} (h : o_c2 v = true) : v.category = 2 := by cases v <;> first | rfl | simp [o_c2] at h
theorem o_c2_r (G : oG) (v : Value) : o_c2 (o_rl G v) = o_c2 v := by cases v <;> rfl
def o_lk : oL → Nat → Option Value
  | [], _ => none
  | (j, v) :: r, i => if j = i then some v else o_lk r i
def o_cl1 (i : Nat) : oL → oL
  | [] => []
  | (j, w) :: r => if j = i then o_cl1 i r else if j + 1 = i ∧ o_c2 w = true then o_cl1 i r else (j, w) :: o_cl1 i r
def o_up1 (i : Nat) (v : Value) : oL → oL
  | [] => [(i, v)]
  | (j, w) :: r => if j = i then (i, v) :: o_cl1 i r else if j + 1 = i ∧ o_c2 w = true then o_up1 i v r else (j, w) :: o_up1 i v r
def o_cl2 (i : Nat) : oL → oL
  | [] => []
  | (j, w) :: r => if j = i then o_cl2 i r else if j = i + 1 then o_cl2 i r else if j + 1 = i ∧ o_c2 w = true then o_cl2 i r else (j, w) :: o_cl2 i r
def o_up2 (i : Nat) (v : Value) : oL → oL
  | [] => [(i, v)]
  | (j, w) :: r => if j = i then (i, v) :: o_cl2 i r else if j = i + 1 then o_up2 i v r else if j + 1 = i ∧ o_c2 w = true then o_up2 i v r else (j, w) :: o_up2 i v r
def o_keep (ks : List Nat) (L : oL) : oL := match ks with
  | [] => []
  | k :: r => match o_lk L k with
    | some v => (k, v) :: o_keep r L
    | none => o_keep r L
theorem o_lk_mem {L : oL} {i : Nat} {v : Value} (h : o_lk L i = some v) : (i, v) ∈ L := by
  induction L with
  | nil => simp [o_lk] at h
  | cons q r ih =>
    obtain ⟨j, w⟩ := q
    simp only [o_lk] at h
    split at h
    · rename_i e
      subst e
      cases h
      exact List.mem_cons_self
    · exact List.mem_cons_of_mem _ (ih h)
theorem o_at {G : oG} {ls : Array Slot} {n : Nat} {L : oL} (hl : lv_has ls n (o_rL G L)) {i : Nat} {v : Value} (h : o_lk L i = some v) : ls[i]? = some (.val (o_rl G v)) :=
  hl.2.2 (i, o_rl G v) (List.mem_map.mpr ⟨(i, v), o_lk_mem h, rfl⟩)
theorem o_has_sub {G : oG} {ls : Array Slot} {n : Nat} {L L' : oL} (hl : lv_has ls n (o_rL G L)) (h : ∀ q ∈ L', q ∈ L) : lv_has ls n (o_rL G L') := by
  refine ⟨hl.1, hl.2.1, fun q hq => ?_⟩
  obtain ⟨x, hx, rfl⟩ := List.mem_map.mp hq
  exact hl.2.2 _ (List.mem_map.mpr ⟨x, h x hx, rfl⟩)
theorem o_keep_sub (ks : List Nat) (L : oL) : ∀ q ∈ o_keep ks L, q ∈ L := by
  induction ks with
  | nil => intro q hq; simp [o_keep] at hq
  | cons k r ih =>
    intro q hq
    unfold o_keep at hq
    split at hq
    · rename_i v hv
      rcases List.mem_cons.mp hq with h | h
      · rw [h]; exact o_lk_mem hv
      · exact ih q h
    · exact ih q hq
theorem o_cl1_mem {i : Nat} {L : oL} {q : Nat × Value} (h : q ∈ o_cl1 i L) : q ∈ L ∧ ¬ q.1 = i ∧ ¬ (q.1 + 1 = i ∧ o_c2 q.2 = true) := by
  induction L with
  | nil => simp [o_cl1] at h
  | cons x r ih =>
    obtain ⟨j, w⟩ := x
    simp only [o_cl1] at h
    split at h
    · exact ⟨List.mem_cons_of_mem _ (ih h).1, (ih h).2⟩
    · split at h
      · exact ⟨List.mem_cons_of_mem _ (ih h).1, (ih h).2⟩
      · rename_i h1 h2
        rcases List.mem_cons.mp h with e | e
        · subst e; exact ⟨List.mem_cons_self, h1, h2⟩
        · exact ⟨List.mem_cons_of_mem _ (ih e).1, (ih e).2⟩
theorem o_up1_mem {i : Nat} {v : Value} {L : oL} {q : Nat × Value} (h : q ∈ o_up1 i v L) : q = (i, v) ∨ (q ∈ L ∧ ¬ q.1 = i ∧ ¬ (q.1 + 1 = i ∧ o_c2 q.2 = true)) := by
  induction L with
  | nil => simp [o_up1] at h; exact Or.inl h
  | cons x r ih =>
    obtain ⟨j, w⟩ := x
    simp only [o_up1] at h
    split at h
    · rcases List.mem_cons.mp h with e | e
      · exact Or.inl e
      · exact Or.inr ⟨List.mem_cons_of_mem _ (o_cl1_mem e).1, (o_cl1_mem e).2⟩
    · split at h
      · rcases ih h with e | e
        · exact Or.inl e
        · exact Or.inr ⟨List.mem_cons_of_mem _ e.1, e.2⟩
      · rename_i h1 h2
        rcases List.mem_cons.mp h with e | e
        · subst e; exact Or.inr ⟨List.mem_cons_self, h1, h2⟩
        · rcases ih e with e | e
          · exact Or.inl e
          · exact Or.inr ⟨List.mem_cons_of_mem _ e.1, e.2⟩
theorem o_cl2_mem {i : Nat} {L : oL} {q : Nat × Value} (h : q ∈ o_cl2 i L) : q ∈ L ∧ ¬ q.1 = i ∧ ¬ q.1 = i + 1 ∧ ¬ (q.1 + 1 = i ∧ o_c2 q.2 = true) := by
  induction L with
  | nil => simp [o_cl2] at h
  | cons x r ih =>
    obtain ⟨j, w⟩ := x
    simp only [o_cl2] at h
    split at h
    · exact ⟨List.mem_cons_of_mem _ (ih h).1, (ih h).2⟩
    · split at h
      · exact ⟨List.mem_cons_of_mem _ (ih h).1, (ih h).2⟩
      · split at h
        · exact ⟨List.mem_cons_of_mem _ (ih h).1, (ih h).2⟩
        · rename_i h1 h2 h3
          rcases List.mem_cons.mp h with e | e
          · subst e; exact ⟨List.mem_cons_self, h1, h2, h3⟩
          · exact ⟨List.mem_cons_of_mem _ (ih e).1, (ih e).2⟩
theorem o_up2_mem {i : Nat} {v : Value} {L : oL} {q : Nat × Value} (h : q ∈ o_up2 i v L) : q = (i, v) ∨ (q ∈ L ∧ ¬ q.1 = i ∧ ¬ q.1 = i + 1 ∧ ¬ (q.1 + 1 = i ∧ o_c2 q.2 = true)) := by
  induction L with
  | nil => simp [o_up2] at h; exact Or.inl h
  | cons x r ih =>
    obtain ⟨j, w⟩ := x
    simp only [o_up2] at h
    split at h
    · rcases List.mem_cons.mp h with e | e
      · exact Or.inl e
      · exact Or.inr ⟨List.mem_cons_of_mem _ (o_cl2_mem e).1, (o_cl2_mem e).2⟩
    · split at h
      · rcases ih h with e | e
        · exact Or.inl e
        · exact Or.inr ⟨List.mem_cons_of_mem _ e.1, e.2⟩
      · split at h
        · rcases ih h with e | e
          · exact Or.inl e
          · exact Or.inr ⟨List.mem_cons_of_mem _ e.1, e.2⟩
        · rename_i h1 h2 h3
          rcases List.mem_cons.mp h with e | e
          · subst e; exact Or.inr ⟨List.mem_cons_self, h1, h2, h3⟩
          · rcases ih e with e | e
            · exact Or.inl e
            · exact Or.inr ⟨List.mem_cons_of_mem _ e.1, e.2⟩
theorem o_has1 {G : oG} {ls : Array Slot} {n i : Nat} {v : Value} {L : oL} (hl : lv_has ls n ((i, o_rl G v) :: (o_rL G L).filter (fun q => !(q.1 == i) && !(q.1 + 1 == i && q.2.category == 2)))) : lv_has ls n (o_rL G (o_up1 i v L)) := by
  refine ⟨hl.1, hl.2.1, fun q hq => ?_⟩
  obtain ⟨x, hx, rfl⟩ := List.mem_map.mp hq
  rcases o_up1_mem hx with e | ⟨e1, e2, e3⟩
  · subst e; exact hl.2.2 _ List.mem_cons_self
  · refine hl.2.2 _ (List.mem_cons_of_mem _ (List.mem_filter.mpr ⟨List.mem_map.mpr ⟨x, e1, rfl⟩, ?_⟩))
    have hc : x.1 + 1 = i → ¬ x.2.category = 2 := fun h5 h6 => e3 ⟨h5, by
      cases hx2 : x.2 <;> rw [hx2] at h6 <;> first | rfl | (simp [Value.category] at h6)⟩
    simp only [o_cat, Bool.and_eq_true, Bool.not_eq_true', beq_eq_false_iff_ne, Bool.and_eq_false_iff, ne_eq]
    refine ⟨e2, ?_⟩
    by_cases h5 : x.1 + 1 = i
    · exact Or.inr (hc h5)
    · exact Or.inl h5
theorem o_has2 {G : oG} {ls : Array Slot} {n i : Nat} {v : Value} {L : oL} (hl : lv_has ls n ((i, o_rl G v) :: (o_rL G L).filter (fun q => !(q.1 == i) && (!(q.1 == i + 1) && !(q.1 + 1 == i && q.2.category == 2))))) : lv_has ls n (o_rL G (o_up2 i v L)) := by
  refine ⟨hl.1, hl.2.1, fun q hq => ?_⟩
  obtain ⟨x, hx, rfl⟩ := List.mem_map.mp hq
  rcases o_up2_mem hx with e | ⟨e1, e2, e4, e3⟩
  · subst e; exact hl.2.2 _ List.mem_cons_self
  · refine hl.2.2 _ (List.mem_cons_of_mem _ (List.mem_filter.mpr ⟨List.mem_map.mpr ⟨x, e1, rfl⟩, ?_⟩))
    have hc : x.1 + 1 = i → ¬ x.2.category = 2 := fun h5 h6 => e3 ⟨h5, by
      cases hx2 : x.2 <;> rw [hx2] at h6 <;> first | rfl | (simp [Value.category] at h6)⟩
    simp only [o_cat, Bool.and_eq_true, Bool.not_eq_true', beq_eq_false_iff_ne, Bool.and_eq_false_iff, ne_eq]
    refine ⟨e2, e4, ?_⟩
    by_cases h5 : x.1 + 1 = i
    · exact Or.inr (hc h5)
    · exact Or.inl h5
section OI
variable {G : oG} {M : oM} {Post : oP} {pc : Nat} {K Kt Kf : oK}

def o_iconst (v : Int32) (K : oK) : oK := fun c s L st h => K c s L (.int v :: st) h
def o_lconst (v : Int64) (K : oK) : oK := fun c s L st h => K c s L (.long v :: st) h
theorem so_iconst {n : Int} {v : Int32} (hd : decode (mC M) pc = .ok (.iconst n, 1)) (hv : Int32.ofInt n = v) (k : oS G M Post (pc + 1) K) : oS G M Post pc (o_iconst v K) := by
  intro c s L st h hk p e R s0 m args below meth cd Q H locs cells slots ls hE hW hc hs hl
  exact lv_iconst hE.1 hE.2.1 hd hv (k _ _ _ _ _ hk p e R s0 m args below meth cd Q H locs cells slots ls hE hW hc hs hl)
theorem so_bipush {n : Int} {v : Int32} (hd : decode (mC M) pc = .ok (.bipush n, 2)) (hv : (Int8.ofInt n).toInt32 = v) (k : oS G M Post (pc + 2) K) : oS G M Post pc (o_iconst v K) := by
  intro c s L st h hk p e R s0 m args below meth cd Q H locs cells slots ls hE hW hc hs hl
  exact lv_bipush hE.1 hE.2.1 hd hv (k _ _ _ _ _ hk p e R s0 m args below meth cd Q H locs cells slots ls hE hW hc hs hl)
theorem so_sipush {n : Int} {v : Int32} (hd : decode (mC M) pc = .ok (.sipush n, 3)) (hv : (Int16.ofInt n).toInt32 = v) (k : oS G M Post (pc + 3) K) : oS G M Post pc (o_iconst v K) := by
  intro c s L st h hk p e R s0 m args below meth cd Q H locs cells slots ls hE hW hc hs hl
  exact lv_sipush hE.1 hE.2.1 hd hv (k _ _ _ _ _ hk p e R s0 m args below meth cd Q H locs cells slots ls hE hW hc hs hl)
theorem so_lconst {n : Fin 2} {v : Int64} (hd : decode (mC M) pc = .ok (.lconst n, 1)) (hv : Int64.ofNat (n : Nat) = v) (k : oS G M Post (pc + 1) K) : oS G M Post pc (o_lconst v K) := by
  intro c s L st h hk p e R s0 m args below meth cd Q H locs cells slots ls hE hW hc hs hl
  exact lv_lconst hE.1 hE.2.1 hd hv (k _ _ _ _ _ hk p e R s0 m args below meth cd Q H locs cells slots ls hE hW hc hs hl)
theorem so_ldc {index : Nat} {v : Int32} (hw : Cond.constant (mY M).cls index v ∈ o_TT) (hd : decode (mC M) pc = .ok (.ldc index, 2)) (k : oS G M Post (pc + 2) K) : oS G M Post pc (o_iconst v K) := by
  intro c s L st h hk p e R s0 m args below meth cd Q H locs cells slots ls hE hW hc hs hl
  exact lv_ldc hE.1 hE.2.1 hE.2.2.2.1 (hE.2.2.2.2.2.1 _ hw) hd (k _ _ _ _ _ hk p e R s0 m args below meth cd Q H locs cells slots ls hE hW hc hs hl)
theorem so_ldc2 {index : Nat} {v : Int64} (hw : Cond.constantLong (mY M).cls index v ∈ o_TT) (hd : decode (mC M) pc = .ok (.ldc2_w index, 3)) (k : oS G M Post (pc + 3) K) : oS G M Post pc (o_lconst v K) := by
  intro c s L st h hk p e R s0 m args below meth cd Q H locs cells slots ls hE hW hc hs hl
  exact lv_ldc2 hE.1 hE.2.1 hE.2.2.2.1 (hE.2.2.2.2.2.1 _ hw) hd (k _ _ _ _ _ hk p e R s0 m args below meth cd Q H locs cells slots ls hE hW hc hs hl)
def o_iload (n : Nat) (K : oK) : oK := fun c s L st h => match o_lk L n with
  | some (.int x) => K c s L (.int x :: st) h
  | _ => False
theorem so_iload {n : Nat} (hd : decode (mC M) pc = .ok (.iload n, 2)) (k : oS G M Post (pc + 2) K) : oS G M Post pc (o_iload n K) := by
  intro c s L st h hk
  unfold o_iload at hk
  split at hk
  · rename_i x hx
    intro p e R s0 m args below meth cd Q H locs cells slots ls hE hW hc hs hl
    exact lv_iload hE.1 hE.2.1 hd (o_at hl hx) (k _ _ _ _ _ hk p e R s0 m args below meth cd Q H locs cells slots ls hE hW hc hs hl)
  · exact hk.elim
theorem so_iload_n {n : Nat} {j : Fin 4} (hd : decode (mC M) pc = .ok (.iload_n j, 1)) (hj : (j : Nat) = n) (k : oS G M Post (pc + 1) K) : oS G M Post pc (o_iload n K) := by
  intro c s L st h hk
  unfold o_iload at hk
  split at hk
  · rename_i x hx
    intro p e R s0 m args below meth cd Q H locs cells slots ls hE hW hc hs hl
    exact lv_iload_n hE.1 hE.2.1 hd hj (o_at hl hx) (k _ _ _ _ _ hk p e R s0 m args below meth cd Q H locs cells slots ls hE hW hc hs hl)
  · exact hk.elim
def o_lload (n : Nat) (K : oK) : oK := fun c s L st h => match o_lk L n with
  | some (.long x) => K c s L (.long x :: st) h
  | _ => False
theorem so_lload {n : Nat} (hd : decode (mC M) pc = .ok (.lload n, 2)) (k : oS G M Post (pc + 2) K) : oS G M Post pc (o_lload n K) := by
  intro c s L st h hk
  unfold o_lload at hk
  split at hk
  · rename_i x hx
    intro p e R s0 m args below meth cd Q H locs cells slots ls hE hW hc hs hl
    exact lv_lload hE.1 hE.2.1 hd (o_at hl hx) (k _ _ _ _ _ hk p e R s0 m args below meth cd Q H locs cells slots ls hE hW hc hs hl)
  · exact hk.elim
theorem so_lload_n {n : Nat} {j : Fin 4} (hd : decode (mC M) pc = .ok (.lload_n j, 1)) (hj : (j : Nat) = n) (k : oS G M Post (pc + 1) K) : oS G M Post pc (o_lload n K) := by
  intro c s L st h hk
  unfold o_lload at hk
  split at hk
  · rename_i x hx
    intro p e R s0 m args below meth cd Q H locs cells slots ls hE hW hc hs hl
    exact lv_lload_n hE.1 hE.2.1 hd hj (o_at hl hx) (k _ _ _ _ _ hk p e R s0 m args below meth cd Q H locs cells slots ls hE hW hc hs hl)
  · exact hk.elim
def o_aload (n : Nat) (K : oK) : oK := fun c s L st h => match o_lk L n with
  | some (.ref x) => K c s L (.ref x :: st) h
  | _ => False
theorem so_aload {n : Nat} (hd : decode (mC M) pc = .ok (.aload n, 2)) (k : oS G M Post (pc + 2) K) : oS G M Post pc (o_aload n K) := by
  intro c s L st h hk
  unfold o_aload at hk
  split at hk
  · rename_i x hx
    intro p e R s0 m args below meth cd Q H locs cells slots ls hE hW hc hs hl
    exact lv_aload hE.1 hE.2.1 hd (o_at hl hx) (k _ _ _ _ _ hk p e R s0 m args below meth cd Q H locs cells slots ls hE hW hc hs hl)
  · exact hk.elim
theorem so_aload_n {n : Nat} {j : Fin 4} (hd : decode (mC M) pc = .ok (.aload_n j, 1)) (hj : (j : Nat) = n) (k : oS G M Post (pc + 1) K) : oS G M Post pc (o_aload n K) := by
  intro c s L st h hk
  unfold o_aload at hk
  split at hk
  · rename_i x hx
    intro p e R s0 m args below meth cd Q H locs cells slots ls hE hW hc hs hl
    exact lv_aload_n hE.1 hE.2.1 hd hj (o_at hl hx) (k _ _ _ _ _ hk p e R s0 m args below meth cd Q H locs cells slots ls hE hW hc hs hl)
  · exact hk.elim
def o_istore (n : Nat) (K : oK) : oK := fun c s L st h => match st with
  | .int x :: r => K c s (o_up1 n (.int x) L) r h
  | _ => False
theorem so_istore {n : Nat} (hd : decode (mC M) pc = .ok (.istore n, 2)) (hn : n < mL M) (k : oS G M Post (pc + 2) K) : oS G M Post pc (o_istore n K) := by
  intro c s L st h hk
  unfold o_istore at hk
  split at hk
  · intro p e R s0 m args below meth cd Q H locs cells slots ls hE hW hc hs hl
    exact lv_istore hE.1 hE.2.1 hd hl hn rfl (fun ls' hl' => k _ _ _ _ _ hk p e R s0 m args below meth cd Q H locs cells slots ls' hE hW hc hs (o_has1 hl'))
  · exact hk.elim
theorem so_istore_n {n : Nat} {j : Fin 4} (hd : decode (mC M) pc = .ok (.istore_n j, 1)) (hj : (j : Nat) = n) (hn : n < mL M) (k : oS G M Post (pc + 1) K) : oS G M Post pc (o_istore n K) := by
  intro c s L st h hk
  unfold o_istore at hk
  split at hk
  · intro p e R s0 m args below meth cd Q H locs cells slots ls hE hW hc hs hl
    exact lv_istore_n hE.1 hE.2.1 hd hj hl hn rfl (fun ls' hl' => k _ _ _ _ _ hk p e R s0 m args below meth cd Q H locs cells slots ls' hE hW hc hs (o_has1 hl'))
  · exact hk.elim
def o_lstore (n : Nat) (K : oK) : oK := fun c s L st h => match st with
  | .long x :: r => K c s (o_up2 n (.long x) L) r h
  | _ => False
theorem so_lstore {n : Nat} (hd : decode (mC M) pc = .ok (.lstore n, 2)) (hn : n + 1 < mL M) (k : oS G M Post (pc + 2) K) : oS G M Post pc (o_lstore n K) := by
  intro c s L st h hk
  unfold o_lstore at hk
  split at hk
  · intro p e R s0 m args below meth cd Q H locs cells slots ls hE hW hc hs hl
    exact lv_lstore hE.1 hE.2.1 hd hl hn rfl (fun ls' hl' => k _ _ _ _ _ hk p e R s0 m args below meth cd Q H locs cells slots ls' hE hW hc hs (o_has2 hl'))
  · exact hk.elim
theorem so_lstore_n {n : Nat} {j : Fin 4} (hd : decode (mC M) pc = .ok (.lstore_n j, 1)) (hj : (j : Nat) = n) (hn : n + 1 < mL M) (k : oS G M Post (pc + 1) K) : oS G M Post pc (o_lstore n K) := by
  intro c s L st h hk
  unfold o_lstore at hk
  split at hk
  · intro p e R s0 m args below meth cd Q H locs cells slots ls hE hW hc hs hl
    exact lv_lstore_n hE.1 hE.2.1 hd hj hl hn rfl (fun ls' hl' => k _ _ _ _ _ hk p e R s0 m args below meth cd Q H locs cells slots ls' hE hW hc hs (o_has2 hl'))
  · exact hk.elim
def o_astore (n : Nat) (K : oK) : oK := fun c s L st h => match st with
  | .ref x :: r => K c s (o_up1 n (.ref x) L) r h
  | _ => False
theorem so_astore {n : Nat} (hd : decode (mC M) pc = .ok (.astore n, 2)) (hn : n < mL M) (k : oS G M Post (pc + 2) K) : oS G M Post pc (o_astore n K) := by
  intro c s L st h hk
  unfold o_astore at hk
  split at hk
  · intro p e R s0 m args below meth cd Q H locs cells slots ls hE hW hc hs hl
    exact lv_astore hE.1 hE.2.1 hd hl hn rfl (fun ls' hl' => k _ _ _ _ _ hk p e R s0 m args below meth cd Q H locs cells slots ls' hE hW hc hs (o_has1 hl'))
  · exact hk.elim
theorem so_astore_n {n : Nat} {j : Fin 4} (hd : decode (mC M) pc = .ok (.astore_n j, 1)) (hj : (j : Nat) = n) (hn : n < mL M) (k : oS G M Post (pc + 1) K) : oS G M Post pc (o_astore n K) := by
  intro c s L st h hk
  unfold o_astore at hk
  split at hk
  · intro p e R s0 m args below meth cd Q H locs cells slots ls hE hW hc hs hl
    exact lv_astore_n hE.1 hE.2.1 hd hj hl hn rfl (fun ls' hl' => k _ _ _ _ _ hk p e R s0 m args below meth cd Q H locs cells slots ls' hE hW hc hs (o_has1 hl'))
  · exact hk.elim
def o_iinc (n : Nat) (d : Int32) (K : oK) : oK := fun c s L st h => match o_lk L n with
  | some (.int x) => K c s (o_up1 n (.int (x + d)) L) st h
  | _ => False
theorem so_iinc {n : Nat} {z : Int} {d : Int32} (hd : decode (mC M) pc = .ok (.iinc n z, 3)) (hz : Int32.ofInt z = d) (hn : n < mL M) (k : oS G M Post (pc + 3) K) : oS G M Post pc (o_iinc n d K) := by
  intro c s L st h hk
  unfold o_iinc at hk
  split at hk
  · rename_i x hx
    intro p e R s0 m args below meth cd Q H locs cells slots ls hE hW hc hs hl
    have hm : (n, Value.int x) ∈ o_rL G L := List.mem_map.mpr ⟨(n, .int x), o_lk_mem hx, rfl⟩
    obtain ⟨j, hj⟩ := List.getElem?_of_mem hm
    exact lv_iinc hE.1 hE.2.1 hd hl hj (by rw [hz]) hn rfl (fun ls' hl' => k _ _ _ _ _ hk p e R s0 m args below meth cd Q H locs cells slots ls' hE hW hc hs (o_has1 hl'))
  · exact hk.elim
def o_iadd (K : oK) : oK := fun c s L st h => match st with
  | .int y :: .int x :: r => K c s L (.int (x + y) :: r) h
  | _ => False
theorem so_iadd (hd : decode (mC M) pc = .ok (.iadd, 1)) (k : oS G M Post (pc + 1) K) : oS G M Post pc (o_iadd K) := by
  intro c s L st h hk
  unfold o_iadd at hk
  split at hk
  · intro p e R s0 m args below meth cd Q H locs cells slots ls hE hW hc hs hl
    exact lv_iadd hE.1 hE.2.1 hd (k _ _ _ _ _ hk p e R s0 m args below meth cd Q H locs cells slots ls hE hW hc hs hl)
  · exact hk.elim
def o_isub (K : oK) : oK := fun c s L st h => match st with
  | .int y :: .int x :: r => K c s L (.int (x - y) :: r) h
  | _ => False
theorem so_isub (hd : decode (mC M) pc = .ok (.isub, 1)) (k : oS G M Post (pc + 1) K) : oS G M Post pc (o_isub K) := by
  intro c s L st h hk
  unfold o_isub at hk
  split at hk
  · intro p e R s0 m args below meth cd Q H locs cells slots ls hE hW hc hs hl
    exact lv_isub hE.1 hE.2.1 hd (k _ _ _ _ _ hk p e R s0 m args below meth cd Q H locs cells slots ls hE hW hc hs hl)
  · exact hk.elim
def o_imul (K : oK) : oK := fun c s L st h => match st with
  | .int y :: .int x :: r => K c s L (.int (x * y) :: r) h
  | _ => False
theorem so_imul (hd : decode (mC M) pc = .ok (.imul, 1)) (k : oS G M Post (pc + 1) K) : oS G M Post pc (o_imul K) := by
  intro c s L st h hk
  unfold o_imul at hk
  split at hk
  · intro p e R s0 m args below meth cd Q H locs cells slots ls hE hW hc hs hl
    exact lv_imul hE.1 hE.2.1 hd (k _ _ _ _ _ hk p e R s0 m args below meth cd Q H locs cells slots ls hE hW hc hs hl)
  · exact hk.elim
def o_iand (K : oK) : oK := fun c s L st h => match st with
  | .int y :: .int x :: r => K c s L (.int (x &&& y) :: r) h
  | _ => False
theorem so_iand (hd : decode (mC M) pc = .ok (.iand, 1)) (k : oS G M Post (pc + 1) K) : oS G M Post pc (o_iand K) := by
  intro c s L st h hk
  unfold o_iand at hk
  split at hk
  · intro p e R s0 m args below meth cd Q H locs cells slots ls hE hW hc hs hl
    exact lv_iand hE.1 hE.2.1 hd (k _ _ _ _ _ hk p e R s0 m args below meth cd Q H locs cells slots ls hE hW hc hs hl)
  · exact hk.elim
def o_ior (K : oK) : oK := fun c s L st h => match st with
  | .int y :: .int x :: r => K c s L (.int (x ||| y) :: r) h
  | _ => False
theorem so_ior (hd : decode (mC M) pc = .ok (.ior, 1)) (k : oS G M Post (pc + 1) K) : oS G M Post pc (o_ior K) := by
  intro c s L st h hk
  unfold o_ior at hk
  split at hk
  · intro p e R s0 m args below meth cd Q H locs cells slots ls hE hW hc hs hl
    exact lv_ior hE.1 hE.2.1 hd (k _ _ _ _ _ hk p e R s0 m args below meth cd Q H locs cells slots ls hE hW hc hs hl)
  · exact hk.elim
def o_ixor (K : oK) : oK := fun c s L st h => match st with
  | .int y :: .int x :: r => K c s L (.int (x ^^^ y) :: r) h
  | _ => False
theorem so_ixor (hd : decode (mC M) pc = .ok (.ixor, 1)) (k : oS G M Post (pc + 1) K) : oS G M Post pc (o_ixor K) := by
  intro c s L st h hk
  unfold o_ixor at hk
  split at hk
  · intro p e R s0 m args below meth cd Q H locs cells slots ls hE hW hc hs hl
    exact lv_ixor hE.1 hE.2.1 hd (k _ _ _ _ _ hk p e R s0 m args below meth cd Q H locs cells slots ls hE hW hc hs hl)
  · exact hk.elim
def o_ishl (K : oK) : oK := fun c s L st h => match st with
  | .int y :: .int x :: r => K c s L (.int (x <<< (y &&& 31)) :: r) h
  | _ => False
theorem so_ishl (hd : decode (mC M) pc = .ok (.ishl, 1)) (k : oS G M Post (pc + 1) K) : oS G M Post pc (o_ishl K) := by
  intro c s L st h hk
  unfold o_ishl at hk
  split at hk
  · intro p e R s0 m args below meth cd Q H locs cells slots ls hE hW hc hs hl
    exact lv_ishl hE.1 hE.2.1 hd (k _ _ _ _ _ hk p e R s0 m args below meth cd Q H locs cells slots ls hE hW hc hs hl)
  · exact hk.elim
def o_ishr (K : oK) : oK := fun c s L st h => match st with
  | .int y :: .int x :: r => K c s L (.int (x >>> (y &&& 31)) :: r) h
  | _ => False
theorem so_ishr (hd : decode (mC M) pc = .ok (.ishr, 1)) (k : oS G M Post (pc + 1) K) : oS G M Post pc (o_ishr K) := by
  intro c s L st h hk
  unfold o_ishr at hk
  split at hk
  · intro p e R s0 m args below meth cd Q H locs cells slots ls hE hW hc hs hl
    exact lv_ishr hE.1 hE.2.1 hd (k _ _ _ _ _ hk p e R s0 m args below meth cd Q H locs cells slots ls hE hW hc hs hl)
  · exact hk.elim
def o_idiv (K : oK) : oK := fun c s L st h => match st with
  | .int y :: .int x :: r => (¬ y = 0) ∧ K c s L (.int (x / y) :: r) h
  | _ => False
theorem so_idiv (hd : decode (mC M) pc = .ok (.idiv, 1)) (k : oS G M Post (pc + 1) K) : oS G M Post pc (o_idiv K) := by
  intro c s L st h hk
  unfold o_idiv at hk
  split at hk
  · intro p e R s0 m args below meth cd Q H locs cells slots ls hE hW hc hs hl
    exact lv_idiv hE.1 hE.2.1 hd hk.1 (k _ _ _ _ _ hk.2 p e R s0 m args below meth cd Q H locs cells slots ls hE hW hc hs hl)
  · exact hk.elim
def o_irem (K : oK) : oK := fun c s L st h => match st with
  | .int y :: .int x :: r => (¬ y = 0) ∧ K c s L (.int (x - x / y * y) :: r) h
  | _ => False
theorem so_irem (hd : decode (mC M) pc = .ok (.irem, 1)) (k : oS G M Post (pc + 1) K) : oS G M Post pc (o_irem K) := by
  intro c s L st h hk
  unfold o_irem at hk
  split at hk
  · intro p e R s0 m args below meth cd Q H locs cells slots ls hE hW hc hs hl
    exact lv_irem hE.1 hE.2.1 hd hk.1 (k _ _ _ _ _ hk.2 p e R s0 m args below meth cd Q H locs cells slots ls hE hW hc hs hl)
  · exact hk.elim
def o_ladd (K : oK) : oK := fun c s L st h => match st with
  | .long y :: .long x :: r => K c s L (.long (x + y) :: r) h
  | _ => False
theorem so_ladd (hd : decode (mC M) pc = .ok (.ladd, 1)) (k : oS G M Post (pc + 1) K) : oS G M Post pc (o_ladd K) := by
  intro c s L st h hk
  unfold o_ladd at hk
  split at hk
  · intro p e R s0 m args below meth cd Q H locs cells slots ls hE hW hc hs hl
    exact lv_ladd hE.1 hE.2.1 hd (k _ _ _ _ _ hk p e R s0 m args below meth cd Q H locs cells slots ls hE hW hc hs hl)
  · exact hk.elim
def o_land (K : oK) : oK := fun c s L st h => match st with
  | .long y :: .long x :: r => K c s L (.long (x &&& y) :: r) h
  | _ => False
theorem so_land (hd : decode (mC M) pc = .ok (.land, 1)) (k : oS G M Post (pc + 1) K) : oS G M Post pc (o_land K) := by
  intro c s L st h hk
  unfold o_land at hk
  split at hk
  · intro p e R s0 m args below meth cd Q H locs cells slots ls hE hW hc hs hl
    exact lv_land hE.1 hE.2.1 hd (k _ _ _ _ _ hk p e R s0 m args below meth cd Q H locs cells slots ls hE hW hc hs hl)
  · exact hk.elim
def o_lor (K : oK) : oK := fun c s L st h => match st with
  | .long y :: .long x :: r => K c s L (.long (x ||| y) :: r) h
  | _ => False
theorem so_lor (hd : decode (mC M) pc = .ok (.lor, 1)) (k : oS G M Post (pc + 1) K) : oS G M Post pc (o_lor K) := by
  intro c s L st h hk
  unfold o_lor at hk
  split at hk
  · intro p e R s0 m args below meth cd Q H locs cells slots ls hE hW hc hs hl
    exact lv_lor hE.1 hE.2.1 hd (k _ _ _ _ _ hk p e R s0 m args below meth cd Q H locs cells slots ls hE hW hc hs hl)
  · exact hk.elim
def o_lushr (K : oK) : oK := fun c s L st h => match st with
  | .int y :: .long x :: r => K c s L (.long (x.toUInt64 >>> (y.toInt64.toUInt64 &&& Int64.toUInt64 63)).toInt64 :: r) h
  | _ => False
theorem so_lushr (hd : decode (mC M) pc = .ok (.lushr, 1)) (k : oS G M Post (pc + 1) K) : oS G M Post pc (o_lushr K) := by
  intro c s L st h hk
  unfold o_lushr at hk
  split at hk
  · intro p e R s0 m args below meth cd Q H locs cells slots ls hE hW hc hs hl
    exact lv_lushr hE.1 hE.2.1 hd rfl (k _ _ _ _ _ hk p e R s0 m args below meth cd Q H locs cells slots ls hE hW hc hs hl)
  · exact hk.elim
def o_lshl (K : oK) : oK := fun c s L st h => match st with
  | .int y :: .long x :: r => K c s L (.long (x <<< (y.toInt64 &&& 63)) :: r) h
  | _ => False
theorem so_lshl (hd : decode (mC M) pc = .ok (.lshl, 1)) (k : oS G M Post (pc + 1) K) : oS G M Post pc (o_lshl K) := by
  intro c s L st h hk
  unfold o_lshl at hk
  split at hk
  · intro p e R s0 m args below meth cd Q H locs cells slots ls hE hW hc hs hl
    exact lv_lshl hE.1 hE.2.1 hd rfl (k _ _ _ _ _ hk p e R s0 m args below meth cd Q H locs cells slots ls hE hW hc hs hl)
  · exact hk.elim
def o_i2l (K : oK) : oK := fun c s L st h => match st with
  | .int x :: r => K c s L (.long x.toInt64 :: r) h
  | _ => False
theorem so_i2l (hd : decode (mC M) pc = .ok (.i2l, 1)) (k : oS G M Post (pc + 1) K) : oS G M Post pc (o_i2l K) := by
  intro c s L st h hk
  unfold o_i2l at hk
  split at hk
  · intro p e R s0 m args below meth cd Q H locs cells slots ls hE hW hc hs hl
    exact lv_i2l hE.1 hE.2.1 hd rfl (k _ _ _ _ _ hk p e R s0 m args below meth cd Q H locs cells slots ls hE hW hc hs hl)
  · exact hk.elim
def o_l2i (K : oK) : oK := fun c s L st h => match st with
  | .long x :: r => K c s L (.int x.toInt32 :: r) h
  | _ => False
theorem so_l2i (hd : decode (mC M) pc = .ok (.l2i, 1)) (k : oS G M Post (pc + 1) K) : oS G M Post pc (o_l2i K) := by
  intro c s L st h hk
  unfold o_l2i at hk
  split at hk
  · intro p e R s0 m args below meth cd Q H locs cells slots ls hE hW hc hs hl
    exact lv_l2i hE.1 hE.2.1 hd rfl (k _ _ _ _ _ hk p e R s0 m args below meth cd Q H locs cells slots ls hE hW hc hs hl)
  · exact hk.elim
def o_lcmp (K : oK) : oK := fun c s L st h => match st with
  | .long y :: .long x :: r => K c s L (.int (lg_cmp x y) :: r) h
  | _ => False
theorem so_lcmp (hd : decode (mC M) pc = .ok (.lcmp, 1)) (k : oS G M Post (pc + 1) K) : oS G M Post pc (o_lcmp K) := by
  intro c s L st h hk
  unfold o_lcmp at hk
  split at hk
  · intro p e R s0 m args below meth cd Q H locs cells slots ls hE hW hc hs hl
    exact W.lcmp hE.1 hE.2.1 hd (k _ _ _ _ _ hk p e R s0 m args below meth cd Q H locs cells slots ls hE hW hc hs hl)
  · exact hk.elim
def o_dup (K : oK) : oK := fun c s L st h => match st with
  | va :: r => o_c2 va = false ∧ K c s L (va :: va :: r) h
  | _ => False
theorem so_dup (hd : decode (mC M) pc = .ok (.dup, 1)) (k : oS G M Post (pc + 1) K) : oS G M Post pc (o_dup K) := by
  intro c s L st h hk
  unfold o_dup at hk
  split at hk
  · intro p e R s0 m args below meth cd Q H locs cells slots ls hE hW hc hs hl
    exact lv_dup hE.1 hE.2.1 hd ((o_cat G _).trans (o_c2_1 hk.1)) (k _ _ _ _ _ hk.2 p e R s0 m args below meth cd Q H locs cells slots ls hE hW hc hs hl)
  · exact hk.elim
def o_pop (K : oK) : oK := fun c s L st h => match st with
  | va :: r => o_c2 va = false ∧ K c s L (r) h
  | _ => False
theorem so_pop (hd : decode (mC M) pc = .ok (.pop, 1)) (k : oS G M Post (pc + 1) K) : oS G M Post pc (o_pop K) := by
  intro c s L st h hk
  unfold o_pop at hk
  split at hk
  · intro p e R s0 m args below meth cd Q H locs cells slots ls hE hW hc hs hl
    exact lv_pop hE.1 hE.2.1 hd ((o_cat G _).trans (o_c2_1 hk.1)) (k _ _ _ _ _ hk.2 p e R s0 m args below meth cd Q H locs cells slots ls hE hW hc hs hl)
  · exact hk.elim
def o_dup_x1 (K : oK) : oK := fun c s L st h => match st with
  | va :: vb :: r => o_c2 va = false ∧ o_c2 vb = false ∧ K c s L (va :: vb :: va :: r) h
  | _ => False
theorem so_dup_x1 (hd : decode (mC M) pc = .ok (.dup_x1, 1)) (k : oS G M Post (pc + 1) K) : oS G M Post pc (o_dup_x1 K) := by
  intro c s L st h hk
  unfold o_dup_x1 at hk
  split at hk
  · intro p e R s0 m args below meth cd Q H locs cells slots ls hE hW hc hs hl
    exact lv_dup_x1 hE.1 hE.2.1 hd ((o_cat G _).trans (o_c2_1 hk.1)) ((o_cat G _).trans (o_c2_1 hk.2.1)) (k _ _ _ _ _ hk.2.2 p e R s0 m args below meth cd Q H locs cells slots ls hE hW hc hs hl)
  · exact hk.elim
def o_dup_x2 (K : oK) : oK := fun c s L st h => match st with
  | va :: vb :: vd :: r => o_c2 va = false ∧ o_c2 vb = false ∧ o_c2 vd = false ∧ K c s L (va :: vb :: vd :: va :: r) h
  | _ => False
theorem so_dup_x2 (hd : decode (mC M) pc = .ok (.dup_x2, 1)) (k : oS G M Post (pc + 1) K) : oS G M Post pc (o_dup_x2 K) := by
  intro c s L st h hk
  unfold o_dup_x2 at hk
  split at hk
  · intro p e R s0 m args below meth cd Q H locs cells slots ls hE hW hc hs hl
    exact lv_dup_x2 hE.1 hE.2.1 hd ((o_cat G _).trans (o_c2_1 hk.1)) ((o_cat G _).trans (o_c2_1 hk.2.1)) ((o_cat G _).trans (o_c2_1 hk.2.2.1)) (k _ _ _ _ _ hk.2.2.2 p e R s0 m args below meth cd Q H locs cells slots ls hE hW hc hs hl)
  · exact hk.elim
def o_dup2 (K : oK) : oK := fun c s L st h => match st with
  | va :: vb :: r => o_c2 va = false ∧ o_c2 vb = false ∧ K c s L (va :: vb :: va :: vb :: r) h
  | _ => False
theorem so_dup2 (hd : decode (mC M) pc = .ok (.dup2, 1)) (k : oS G M Post (pc + 1) K) : oS G M Post pc (o_dup2 K) := by
  intro c s L st h hk
  unfold o_dup2 at hk
  split at hk
  · intro p e R s0 m args below meth cd Q H locs cells slots ls hE hW hc hs hl
    exact lv_dup2_11 hE.1 hE.2.1 hd ((o_cat G _).trans (o_c2_1 hk.1)) ((o_cat G _).trans (o_c2_1 hk.2.1)) (k _ _ _ _ _ hk.2.2 p e R s0 m args below meth cd Q H locs cells slots ls hE hW hc hs hl)
  · exact hk.elim
def o_ifeq (Kt Kf : oK) : oK := fun c s L st h => match st with
  | .int x :: r => (x = 0 → Kt c s L r h) ∧ (¬ (x = 0) → Kf c s L r h)
  | _ => False
theorem so_ifeq {off : Int} {tgt : Nat} (hd : decode (mC M) pc = .ok (.ifCond .eq off, 3)) (ht : (pc : Int) + off = (tgt : Int)) (kt : oS G M Post tgt Kt) (kf : oS G M Post (pc + 3) Kf) : oS G M Post pc (o_ifeq Kt Kf) := by
  intro c s L st h hk
  unfold o_ifeq at hk
  split at hk
  · intro p e R s0 m args below meth cd Q H locs cells slots ls hE hW hc hs hl
    exact lv_if_eq hE.1 hE.2.1 hd ht (fun q => kt _ _ _ _ _ (hk.1 q) p e R s0 m args below meth cd Q H locs cells slots ls hE hW hc hs hl) (fun q => kf _ _ _ _ _ (hk.2 q) p e R s0 m args below meth cd Q H locs cells slots ls hE hW hc hs hl)
  · exact hk.elim
def o_icmpeq (Kt Kf : oK) : oK := fun c s L st h => match st with
  | .int y :: .int x :: r => (x = y → Kt c s L r h) ∧ (¬ (x = y) → Kf c s L r h)
  | _ => False
theorem so_icmpeq {off : Int} {tgt : Nat} (hd : decode (mC M) pc = .ok (.if_icmp .eq off, 3)) (ht : (pc : Int) + off = (tgt : Int)) (kt : oS G M Post tgt Kt) (kf : oS G M Post (pc + 3) Kf) : oS G M Post pc (o_icmpeq Kt Kf) := by
  intro c s L st h hk
  unfold o_icmpeq at hk
  split at hk
  · intro p e R s0 m args below meth cd Q H locs cells slots ls hE hW hc hs hl
    exact lv_icmp_eq hE.1 hE.2.1 hd ht (fun q => kt _ _ _ _ _ (hk.1 q) p e R s0 m args below meth cd Q H locs cells slots ls hE hW hc hs hl) (fun q => kf _ _ _ _ _ (hk.2 q) p e R s0 m args below meth cd Q H locs cells slots ls hE hW hc hs hl)
  · exact hk.elim
def o_ifne (Kt Kf : oK) : oK := fun c s L st h => match st with
  | .int x :: r => (¬ x = 0 → Kt c s L r h) ∧ (x = 0 → Kf c s L r h)
  | _ => False
theorem so_ifne {off : Int} {tgt : Nat} (hd : decode (mC M) pc = .ok (.ifCond .ne off, 3)) (ht : (pc : Int) + off = (tgt : Int)) (kt : oS G M Post tgt Kt) (kf : oS G M Post (pc + 3) Kf) : oS G M Post pc (o_ifne Kt Kf) := by
  intro c s L st h hk
  unfold o_ifne at hk
  split at hk
  · intro p e R s0 m args below meth cd Q H locs cells slots ls hE hW hc hs hl
    exact lv_if_ne hE.1 hE.2.1 hd ht (fun q => kt _ _ _ _ _ (hk.1 q) p e R s0 m args below meth cd Q H locs cells slots ls hE hW hc hs hl) (fun q => kf _ _ _ _ _ (hk.2 q) p e R s0 m args below meth cd Q H locs cells slots ls hE hW hc hs hl)
  · exact hk.elim
def o_icmpne (Kt Kf : oK) : oK := fun c s L st h => match st with
  | .int y :: .int x :: r => (¬ x = y → Kt c s L r h) ∧ (x = y → Kf c s L r h)
  | _ => False
theorem so_icmpne {off : Int} {tgt : Nat} (hd : decode (mC M) pc = .ok (.if_icmp .ne off, 3)) (ht : (pc : Int) + off = (tgt : Int)) (kt : oS G M Post tgt Kt) (kf : oS G M Post (pc + 3) Kf) : oS G M Post pc (o_icmpne Kt Kf) := by
  intro c s L st h hk
  unfold o_icmpne at hk
  split at hk
  · intro p e R s0 m args below meth cd Q H locs cells slots ls hE hW hc hs hl
    exact lv_icmp_ne hE.1 hE.2.1 hd ht (fun q => kt _ _ _ _ _ (hk.1 q) p e R s0 m args below meth cd Q H locs cells slots ls hE hW hc hs hl) (fun q => kf _ _ _ _ _ (hk.2 q) p e R s0 m args below meth cd Q H locs cells slots ls hE hW hc hs hl)
  · exact hk.elim
def o_iflt (Kt Kf : oK) : oK := fun c s L st h => match st with
  | .int x :: r => (x < 0 → Kt c s L r h) ∧ (¬ (x < 0) → Kf c s L r h)
  | _ => False
theorem so_iflt {off : Int} {tgt : Nat} (hd : decode (mC M) pc = .ok (.ifCond .lt off, 3)) (ht : (pc : Int) + off = (tgt : Int)) (kt : oS G M Post tgt Kt) (kf : oS G M Post (pc + 3) Kf) : oS G M Post pc (o_iflt Kt Kf) := by
  intro c s L st h hk
  unfold o_iflt at hk
  split at hk
  · intro p e R s0 m args below meth cd Q H locs cells slots ls hE hW hc hs hl
    exact lv_if_lt hE.1 hE.2.1 hd ht (fun q => kt _ _ _ _ _ (hk.1 q) p e R s0 m args below meth cd Q H locs cells slots ls hE hW hc hs hl) (fun q => kf _ _ _ _ _ (hk.2 q) p e R s0 m args below meth cd Q H locs cells slots ls hE hW hc hs hl)
  · exact hk.elim
def o_icmplt (Kt Kf : oK) : oK := fun c s L st h => match st with
  | .int y :: .int x :: r => (x < y → Kt c s L r h) ∧ (¬ (x < y) → Kf c s L r h)
  | _ => False
theorem so_icmplt {off : Int} {tgt : Nat} (hd : decode (mC M) pc = .ok (.if_icmp .lt off, 3)) (ht : (pc : Int) + off = (tgt : Int)) (kt : oS G M Post tgt Kt) (kf : oS G M Post (pc + 3) Kf) : oS G M Post pc (o_icmplt Kt Kf) := by
  intro c s L st h hk
  unfold o_icmplt at hk
  split at hk
  · intro p e R s0 m args below meth cd Q H locs cells slots ls hE hW hc hs hl
    exact lv_icmp_lt hE.1 hE.2.1 hd ht (fun q => kt _ _ _ _ _ (hk.1 q) p e R s0 m args below meth cd Q H locs cells slots ls hE hW hc hs hl) (fun q => kf _ _ _ _ _ (hk.2 q) p e R s0 m args below meth cd Q H locs cells slots ls hE hW hc hs hl)
  · exact hk.elim
def o_ifge (Kt Kf : oK) : oK := fun c s L st h => match st with
  | .int x :: r => (0 ≤ x → Kt c s L r h) ∧ (¬ (0 ≤ x) → Kf c s L r h)
  | _ => False
theorem so_ifge {off : Int} {tgt : Nat} (hd : decode (mC M) pc = .ok (.ifCond .ge off, 3)) (ht : (pc : Int) + off = (tgt : Int)) (kt : oS G M Post tgt Kt) (kf : oS G M Post (pc + 3) Kf) : oS G M Post pc (o_ifge Kt Kf) := by
  intro c s L st h hk
  unfold o_ifge at hk
  split at hk
  · intro p e R s0 m args below meth cd Q H locs cells slots ls hE hW hc hs hl
    exact lv_if_ge hE.1 hE.2.1 hd ht (fun q => kt _ _ _ _ _ (hk.1 q) p e R s0 m args below meth cd Q H locs cells slots ls hE hW hc hs hl) (fun q => kf _ _ _ _ _ (hk.2 q) p e R s0 m args below meth cd Q H locs cells slots ls hE hW hc hs hl)
  · exact hk.elim
def o_icmpge (Kt Kf : oK) : oK := fun c s L st h => match st with
  | .int y :: .int x :: r => (y ≤ x → Kt c s L r h) ∧ (¬ (y ≤ x) → Kf c s L r h)
  | _ => False
theorem so_icmpge {off : Int} {tgt : Nat} (hd : decode (mC M) pc = .ok (.if_icmp .ge off, 3)) (ht : (pc : Int) + off = (tgt : Int)) (kt : oS G M Post tgt Kt) (kf : oS G M Post (pc + 3) Kf) : oS G M Post pc (o_icmpge Kt Kf) := by
  intro c s L st h hk
  unfold o_icmpge at hk
  split at hk
  · intro p e R s0 m args below meth cd Q H locs cells slots ls hE hW hc hs hl
    exact lv_icmp_ge hE.1 hE.2.1 hd ht (fun q => kt _ _ _ _ _ (hk.1 q) p e R s0 m args below meth cd Q H locs cells slots ls hE hW hc hs hl) (fun q => kf _ _ _ _ _ (hk.2 q) p e R s0 m args below meth cd Q H locs cells slots ls hE hW hc hs hl)
  · exact hk.elim
def o_ifgt (Kt Kf : oK) : oK := fun c s L st h => match st with
  | .int x :: r => (0 < x → Kt c s L r h) ∧ (¬ (0 < x) → Kf c s L r h)
  | _ => False
theorem so_ifgt {off : Int} {tgt : Nat} (hd : decode (mC M) pc = .ok (.ifCond .gt off, 3)) (ht : (pc : Int) + off = (tgt : Int)) (kt : oS G M Post tgt Kt) (kf : oS G M Post (pc + 3) Kf) : oS G M Post pc (o_ifgt Kt Kf) := by
  intro c s L st h hk
  unfold o_ifgt at hk
  split at hk
  · intro p e R s0 m args below meth cd Q H locs cells slots ls hE hW hc hs hl
    exact lv_if_gt hE.1 hE.2.1 hd ht (fun q => kt _ _ _ _ _ (hk.1 q) p e R s0 m args below meth cd Q H locs cells slots ls hE hW hc hs hl) (fun q => kf _ _ _ _ _ (hk.2 q) p e R s0 m args below meth cd Q H locs cells slots ls hE hW hc hs hl)
  · exact hk.elim
def o_icmpgt (Kt Kf : oK) : oK := fun c s L st h => match st with
  | .int y :: .int x :: r => (y < x → Kt c s L r h) ∧ (¬ (y < x) → Kf c s L r h)
  | _ => False
theorem so_icmpgt {off : Int} {tgt : Nat} (hd : decode (mC M) pc = .ok (.if_icmp .gt off, 3)) (ht : (pc : Int) + off = (tgt : Int)) (kt : oS G M Post tgt Kt) (kf : oS G M Post (pc + 3) Kf) : oS G M Post pc (o_icmpgt Kt Kf) := by
  intro c s L st h hk
  unfold o_icmpgt at hk
  split at hk
  · intro p e R s0 m args below meth cd Q H locs cells slots ls hE hW hc hs hl
    exact lv_icmp_gt hE.1 hE.2.1 hd ht (fun q => kt _ _ _ _ _ (hk.1 q) p e R s0 m args below meth cd Q H locs cells slots ls hE hW hc hs hl) (fun q => kf _ _ _ _ _ (hk.2 q) p e R s0 m args below meth cd Q H locs cells slots ls hE hW hc hs hl)
  · exact hk.elim
def o_ifle (Kt Kf : oK) : oK := fun c s L st h => match st with
  | .int x :: r => (x ≤ 0 → Kt c s L r h) ∧ (¬ (x ≤ 0) → Kf c s L r h)
  | _ => False
theorem so_ifle {off : Int} {tgt : Nat} (hd : decode (mC M) pc = .ok (.ifCond .le off, 3)) (ht : (pc : Int) + off = (tgt : Int)) (kt : oS G M Post tgt Kt) (kf : oS G M Post (pc + 3) Kf) : oS G M Post pc (o_ifle Kt Kf) := by
  intro c s L st h hk
  unfold o_ifle at hk
  split at hk
  · intro p e R s0 m args below meth cd Q H locs cells slots ls hE hW hc hs hl
    exact lv_if_le hE.1 hE.2.1 hd ht (fun q => kt _ _ _ _ _ (hk.1 q) p e R s0 m args below meth cd Q H locs cells slots ls hE hW hc hs hl) (fun q => kf _ _ _ _ _ (hk.2 q) p e R s0 m args below meth cd Q H locs cells slots ls hE hW hc hs hl)
  · exact hk.elim
def o_icmple (Kt Kf : oK) : oK := fun c s L st h => match st with
  | .int y :: .int x :: r => (x ≤ y → Kt c s L r h) ∧ (¬ (x ≤ y) → Kf c s L r h)
  | _ => False
theorem so_icmple {off : Int} {tgt : Nat} (hd : decode (mC M) pc = .ok (.if_icmp .le off, 3)) (ht : (pc : Int) + off = (tgt : Int)) (kt : oS G M Post tgt Kt) (kf : oS G M Post (pc + 3) Kf) : oS G M Post pc (o_icmple Kt Kf) := by
  intro c s L st h hk
  unfold o_icmple at hk
  split at hk
  · intro p e R s0 m args below meth cd Q H locs cells slots ls hE hW hc hs hl
    exact lv_icmp_le hE.1 hE.2.1 hd ht (fun q => kt _ _ _ _ _ (hk.1 q) p e R s0 m args below meth cd Q H locs cells slots ls hE hW hc hs hl) (fun q => kf _ _ _ _ _ (hk.2 q) p e R s0 m args below meth cd Q H locs cells slots ls hE hW hc hs hl)
  · exact hk.elim
/-- go on at a place that has a row of its own, with these locals -/
def o_jmp (G : oG) (M : oM) (Post : oP) (tgt : Nat) (ks : List Nat) : oK := fun c s L st h => Wp G M Post tgt c s (o_keep ks L) st h
theorem so_jmp {ks : List Nat} : oS G M Post pc (o_jmp G M Post pc ks) := by
  intro c s L st h hk p e R s0 m args below meth cd Q H locs cells slots ls hE hW hc hs hl
  exact hk p e R s0 m args below meth cd Q H locs cells slots ls hE hW hc hs (o_has_sub hl (o_keep_sub ks L))
theorem so_goto {off : Int} {tgt : Nat} (hd : decode (mC M) pc = .ok (.goto off, 3)) (ht : (pc : Int) + off = (tgt : Int)) (k : oS G M Post tgt K) : oS G M Post pc K := by
  intro c s L st h hk p e R s0 m args below meth cd Q H locs cells slots ls hE hW hc hs hl
  exact lv_goto hE.1 hE.2.1 hd ht (k _ _ _ _ _ hk p e R s0 m args below meth cd Q H locs cells slots ls hE hW hc hs hl)
def o_tgt (lo : Int) (ts : List Nat) (dt : Nat) (x : Int32) : Nat := if x.toInt < lo then dt else (ts[(x.toInt - lo).toNat]?).getD dt
def o_tsw (G : oG) (M : oM) (Post : oP) (lo : Int) (ts : List Nat) (dt : Nat) (ks : List Nat) : oK := fun c s L st h => match st with
  | .int x :: r => Wp G M Post (o_tgt lo ts dt x) c s (o_keep ks L) r h
  | _ => False
theorem so_tsw {dflt lo hi : Int} {offs : Array Int} {len : Nat} {ts : List Nat} {dt : Nat} {ks : List Nat} (hd : decode (mC M) pc = .ok (.tableswitch dflt lo hi offs, len)) (h1 : (pc : Int) + dflt = (dt : Int)) (h2 : offs.toList.map (fun o => (pc : Int) + o) = ts.map (fun (t : Nat) => (t : Int))) (h3 : hi - lo + 1 = (ts.length : Int)) : oS G M Post pc (o_tsw G M Post lo ts dt ks) := by
  intro c s L st h hk
  unfold o_tsw at hk
  split at hk
  · rename_i x r
    intro p e R s0 m args below meth cd Q H locs cells slots ls hE hW hc hs hl
    have kk := hk p e R s0 m args below meth cd Q H locs cells slots ls hE hW hc hs (o_has_sub hl (o_keep_sub ks L))
    by_cases hx : x.toInt < lo
    · simp only [o_tgt, if_pos hx] at kk
      exact lv_tableOut hE.1 hE.2.1 hd (Or.inl hx) h1 kk
    · simp only [o_tgt, if_neg hx] at kk
      by_cases hy : hi < x.toInt
      · rw [List.getElem?_eq_none (by omega)] at kk
        exact lv_tableOut hE.1 hE.2.1 hd (Or.inr hy) h1 kk
      · have hlt : (x.toInt - lo).toNat < ts.length := by omega
        have hlo : (x.toInt - lo).toNat < offs.toList.length := by
          have := congrArg List.length h2
          simp only [List.length_map] at this
          omega
        have e1 := congrArg (fun l => l[(x.toInt - lo).toNat]?) h2
        simp only [List.getElem?_map, List.getElem?_eq_getElem hlt, List.getElem?_eq_getElem hlo, Option.map_some, Option.some.injEq] at e1
        rw [List.getElem?_eq_getElem hlt, Option.getD_some] at kk
        exact lv_tableIn hE.1 hE.2.1 hd hx hy (by rw [← Array.getElem?_toList]; exact List.getElem?_eq_getElem hlo) e1 kk
  · exact hk.elim
-- ends
def o_iret (Post : oP) : oK := fun _ _ _ st h => match st with
  | [.int x] => Post (some (.int x)) h
  | _ => False
theorem so_iret (hd : decode (mC M) pc = .ok (.ireturn, 1)) (hr : mR M = some .int) : oS G M Post pc (o_iret Post) := by
  intro c s L st h hk
  unfold o_iret at hk
  split at hk
  · rename_i x
    intro p e R s0 m args below meth cd Q H locs cells slots ls hE hW hc hs hl
    exact hE.2.2.2.2.2.2.2.2.2 (some (.int x)) h H locs ls pc cells slots hk hW (by omega) (by omega) ⟨⟨_, hr, rfl⟩, hd⟩
  · exact hk.elim
def o_zret (Post : oP) : oK := fun _ _ _ st h => match st with
  | [.int x] => (x = 0 ∨ x = 1) ∧ Post (some (.int x)) h
  | _ => False
theorem so_zret (hd : decode (mC M) pc = .ok (.ireturn, 1)) (hr : mR M = some .boolean) : oS G M Post pc (o_zret Post) := by
  intro c s L st h hk
  unfold o_zret at hk
  split at hk
  · rename_i x
    intro p e R s0 m args below meth cd Q H locs cells slots ls hE hW hc hs hl
    exact hE.2.2.2.2.2.2.2.2.2 (some (.int x)) h H locs ls pc cells slots hk.2 hW (by omega) (by omega) ⟨⟨_, hr, by rcases hk.1 with e | e <;> rw [e] <;> rfl⟩, hd⟩
  · exact hk.elim
def o_lret (Post : oP) : oK := fun _ _ _ st h => match st with
  | [.long x] => Post (some (.long x)) h
  | _ => False
theorem so_lret (hd : decode (mC M) pc = .ok (.lreturn, 1)) (hr : mR M = some .long) : oS G M Post pc (o_lret Post) := by
  intro c s L st h hk
  unfold o_lret at hk
  split at hk
  · rename_i x
    intro p e R s0 m args below meth cd Q H locs cells slots ls hE hW hc hs hl
    exact hE.2.2.2.2.2.2.2.2.2 (some (.long x)) h H locs ls pc cells slots hk hW (by omega) (by omega) ⟨hr, hd⟩
  · exact hk.elim
def o_vret (Post : oP) : oK := fun _ _ _ st h => match st with
  | [] => Post none h
  | _ => False
theorem so_vret (hd : decode (mC M) pc = .ok (.return_, 1)) (hr : mR M = none) : oS G M Post pc (o_vret Post) := by
  intro c s L st h hk
  unfold o_vret at hk
  split at hk
  · intro p e R s0 m args below meth cd Q H locs cells slots ls hE hW hc hs hl
    exact hE.2.2.2.2.2.2.2.2.2 none h H locs ls pc cells slots hk hW (by omega) (by omega) ⟨hr, hd⟩
  · exact hk.elim
end OI
end
section
/-! Fields, arrays, new cells, calls. -/
def o_get (h : oH) (v : Value) : Option oE := match v with
  | .ref (a + 1) => h[a]?
  | _ => none
def o_ix (v : Value) : Nat := match v with
  | .ref (a + 1) => a
  | _ => 0
theorem o_get_spec {h : oH} {v : Value} {e : oE} (hg : o_get h v = some e) : ∃ a : Nat, v = .ref (a + 1) ∧ h[a]? = some e := by
  unfold o_get at hg
  split at hg
  · exact ⟨_, rfl, hg⟩
  · cases hg
/-- what the tables say of the objects of number ci -/
def o_Cl (ci : Nat) (C : String) (T : u_T) (N : Nat) (ty : Nat → FieldType) : Prop :=
  o_cl[ci]? = some (C, T, N) ∧ (∀ w ∈ u_ws C T N, w ∈ o_TT) ∧ (∀ k, k < N → parseFieldDescriptor (T k).2.2.1 = some (ty k)) ∧ ∀ a, a < N → ∀ b, b < N → a ≠ b → (T a).2.1 ≠ (T b).2.1
section OW
variable {G : oG} {p : Program} {e : Env} {R : Room} {s : State} {m : MethodId} {args : Array Value} {below : List Frame} {meth : Method} {cd : Code} {H : Heap} {locs : List Loc} {cells slots : Nat} {Q : State → Prop} {ls : Array Slot} {rest : List Value} {own : String} {cc : ByteArray} {h : oH} {ci a k index pc N : Nat} {C : String} {T : u_T} {ty : Nat → FieldType} {fs : List Value} {v : Value}
theorem o_wput (hx : p.tables.exec = Jvm.exec) (hb : cd.code = cc) (hts : ∀ w ∈ o_TT, w.before args s = true) (hown : s.vm.findClass own = some m.cls) (hSf : o_Sf G s) (hC : o_Cl ci C T N ty) (hW : o_Wd G h H locs) (ha : h[a]? = some (.inr (ci, fs))) (hk : k < N) (hlink : (Cond.fieldLink own index (T k).1 (T k).2.1 (T k).2.2.1).before args s = true) (hfin : (T k).2.2.2 = false) (hn : narrow (ty k) (o_rl G v) = o_rl G v) (hfit : fits (ty k) (o_rl G v) = true) (hl : k < fs.length) (hd : decode cc pc = .ok (.putfield index, 3))
    (kk : ∀ (H1 : Heap) (locs1 : List Loc), o_Wd G (h.set a (.inr (ci, fs.set k v))) H1 locs1 → W p (gl G) e R s m args below meth cd H1 locs1 cells slots Q (F0 m (pc + 3) ls rest)) : W p (gl G) e R s m args below meth cd H locs cells slots Q (F0 m pc ls (o_rl G v :: .ref ((gH G).size + a) :: rest)) := by
  have hap := va_apart (own := own) hts hC.2.1 ty hC.2.2.1 hC.2.2.2 hSf.1 hC.1
  obtain ⟨r, h1, cell, q1, q2, q3, q4⟩ := hW.1 a _ (o_ws_at ha)
  have hr : r = (C, T, N) := Option.some.inj (h1.symm.trans hC.1)
  subst hr
  obtain ⟨hS, hfc, kC, hkC, hkind⟩ := hSf.1.1 ci _ hC.1
  obtain ⟨cf, kf, fi, f, hi, hsl⟩ := hS k hk
  have hlay := hts _ (hC.2.1 _ (u_in_lay hk))
  unfold u_lay at hlay
  rw [if_neg (by rw [hfin]; decide)] at hlay
  have hst := (u_facts hfc hkC (u_lays hts hC.2.1 hk) hi).1
  have h6 := u_store hfc hkC hkind hlay hi (hC.2.2.1 k hk) hn hfit
  refine W.putK hx hb (f := f) ⟨hown, hlink, ⟨_, _, _, hi⟩, hst⟩ (by rw [q2]; exact h6) q1 q3 (by rw [hsl]; exact k2_hasslot (q4 k hk)) rfl rfl hd fun H' e1 e2 e3 => ?_
  rw [hsl] at e1 ⊢
  refine kk H' _ (hW.set (e := .inr (ci, fs.set k v)) ha ⟨_, hC.1, t_OB.to (V := updV (vp_V (fs.map (o_rl G))) k (o_rl G v)) ⟨_, e1, q2, q3, t_set q4 hap hk _⟩ (fun j _ => ?_)⟩ e2 e3)
  show _ = vp_V ((fs.set k v).map (o_rl G)) j
  rw [List.map_set]
  exact vp_updV_set (by rw [List.length_map]; exact hl) _ j
theorem o_wputN (hx : p.tables.exec = Jvm.exec) (hb : cd.code = cc) (hts : ∀ w ∈ o_TT, w.before args s = true) (hown : s.vm.findClass own = some m.cls) (hSf : o_Sf G s) (hC : o_Cl ci C T N ty) (hW : o_Wd G h H locs) (ha : h[a]? = some (.inr (ci, fs))) (hk : k < N) {host : String} (hlink : (Cond.fieldLinkNest own index (T k).1 (T k).2.1 (T k).2.2.1 host).before args s = true) (hfin : (T k).2.2.2 = false) (hn : narrow (ty k) (o_rl G v) = o_rl G v) (hfit : fits (ty k) (o_rl G v) = true) (hl : k < fs.length) (hd : decode cc pc = .ok (.putfield index, 3))
    (kk : ∀ (H1 : Heap) (locs1 : List Loc), o_Wd G (h.set a (.inr (ci, fs.set k v))) H1 locs1 → W p (gl G) e R s m args below meth cd H1 locs1 cells slots Q (F0 m (pc + 3) ls rest)) : W p (gl G) e R s m args below meth cd H locs cells slots Q (F0 m pc ls (o_rl G v :: .ref ((gH G).size + a) :: rest)) := by
  have hap := va_apart (own := own) hts hC.2.1 ty hC.2.2.1 hC.2.2.2 hSf.1 hC.1
  obtain ⟨r, h1, cell, q1, q2, q3, q4⟩ := hW.1 a _ (o_ws_at ha)
  have hr : r = (C, T, N) := Option.some.inj (h1.symm.trans hC.1)
  subst hr
  obtain ⟨hS, hfc, kC, hkC, hkind⟩ := hSf.1.1 ci _ hC.1
  obtain ⟨cf, kf, fi, f, hi, hsl⟩ := hS k hk
  have hlay := hts _ (hC.2.1 _ (u_in_lay hk))
  unfold u_lay at hlay
  rw [if_neg (by rw [hfin]; decide)] at hlay
  have hst := (u_facts hfc hkC (u_lays hts hC.2.1 hk) hi).1
  have h6 := u_store hfc hkC hkind hlay hi (hC.2.2.1 k hk) hn hfit
  refine va_WputK hx hb (f := f) hown hlink hi hst (by rw [q2]; exact h6) q1 q3 (by rw [hsl]; exact k2_hasslot (q4 k hk)) rfl rfl hd fun H' e1 e2 e3 => ?_
  rw [hsl] at e1 ⊢
  refine kk H' _ (hW.set (e := .inr (ci, fs.set k v)) ha ⟨_, hC.1, t_OB.to (V := updV (vp_V (fs.map (o_rl G))) k (o_rl G v)) ⟨_, e1, q2, q3, t_set q4 hap hk _⟩ (fun j _ => ?_)⟩ e2 e3)
  show _ = vp_V ((fs.set k v).map (o_rl G)) j
  rw [List.map_set]
  exact vp_updV_set (by rw [List.length_map]; exact hl) _ j
theorem o_wputF (hx : p.tables.exec = Jvm.exec) (hb : cd.code = cc) (hts : ∀ w ∈ o_TT, w.before args s = true) (hown : s.vm.findClass own = some m.cls) (hSf : o_Sf G s) (hC : o_Cl ci C T N ty) (hW : o_Wd G h H locs) (ha : h[a]? = some (.inr (ci, fs))) (hk : k < N) (hlink : (Cond.fieldLink own index (T k).1 (T k).2.1 (T k).2.2.1).before args s = true) (hfin : (T k).2.2.2 = true) (hin2 : meth.name = "<init>") (hdecl : (T k).1 = own) (hn : narrow (ty k) (o_rl G v) = o_rl G v) (hfit : fits (ty k) (o_rl G v) = true) (hl : k < fs.length) (hd : decode cc pc = .ok (.putfield index, 3))
    (kk : ∀ (H1 : Heap) (locs1 : List Loc), o_Wd G (h.set a (.inr (ci, fs.set k v))) H1 locs1 → W p (gl G) e R s m args below meth cd H1 locs1 cells slots Q (F0 m (pc + 3) ls rest)) : W p (gl G) e R s m args below meth cd H locs cells slots Q (F0 m pc ls (o_rl G v :: .ref ((gH G).size + a) :: rest)) := by
  have hap := va_apart (own := own) hts hC.2.1 ty hC.2.2.1 hC.2.2.2 hSf.1 hC.1
  obtain ⟨r, h1, cell, q1, q2, q3, q4⟩ := hW.1 a _ (o_ws_at ha)
  have hr : r = (C, T, N) := Option.some.inj (h1.symm.trans hC.1)
  subst hr
  obtain ⟨hS, hfc, kC, hkC, hkind⟩ := hSf.1.1 ci _ hC.1
  obtain ⟨cf, kf, fi, f, hi, hsl⟩ := hS k hk
  have hlay := hts _ (hC.2.1 _ (u_in_lay hk))
  unfold u_lay at hlay
  rw [if_pos hfin] at hlay
  have hst := (u_facts hfc hkC (u_lays hts hC.2.1 hk) hi).1
  have hcf : m.cls = cf := by
    obtain ⟨_, _, c', _, _, _, -, -, hf', -, -, -, hown2, -⟩ := Cond.laysFinal_spec hlay
    have e1 : c' = cf := by have := hi.symm.trans hf'; simp at this; exact this.1.symm
    rw [hdecl] at hown2
    rw [← e1]; exact Option.some.inj (hown.symm.trans hown2)
  have h6 := u_fits hfc hkC hkind (Or.inr hlay) hi (hC.2.2.1 k hk) hn hfit
  refine W.putFinK hx hb hown hlink hi hst hcf hin2 (by rw [q2]; exact h6) q1 q3 (by rw [hsl]; exact k2_hasslot (q4 k hk)) rfl rfl hd fun H' e1 e2 e3 => ?_
  rw [hsl] at e1 ⊢
  refine kk H' _ (hW.set (e := .inr (ci, fs.set k v)) ha ⟨_, hC.1, t_OB.to (V := updV (vp_V (fs.map (o_rl G))) k (o_rl G v)) ⟨_, e1, q2, q3, t_set q4 hap hk _⟩ (fun j _ => ?_)⟩ e2 e3)
  show _ = vp_V ((fs.set k v).map (o_rl G)) j
  rw [List.map_set]
  exact vp_updV_set (by rw [List.length_map]; exact hl) _ j
theorem o_wiast {n : Nat} {f : Nat → Int32} {i : Int32} {x : Int32} (hx : p.tables.exec = Jvm.exec) (hb : cd.code = cc) (hSf : o_Sf G s) (hW : o_Wd G h H locs) (ha : h[a]? = some (.inl (0, n, .inl f))) (hin : vp_in i n) (hd : decode cc pc = .ok (.iastore, 1))
    (kk : ∀ (H1 : Heap) (locs1 : List Loc), o_Wd G (h.set a (.inl (0, n, .inl (upd f i.toNatClampNeg x)))) H1 locs1 → W p (gl G) e R s m args below meth cd H1 locs1 cells slots Q (F0 m (pc + 1) ls rest)) : W p (gl G) e R s m args below meth cd H locs cells slots Q (F0 m pc ls (.int x :: .int i :: .ref ((gH G).size + a) :: rest)) := by
  refine W.iast hx hb (hW.1 a _ (o_ws_at ha)) ((hSf.1.2 0 _ rfl).1 n (fun j => .int (f j))) (fun q => by cases q) (by show ¬ (i < 0 ∨ (arrV _ _ _).slots.size ≤ _); rw [arrV_size]; exact hin) rfl rfl hd fun H1 e z oq => ?_
  refine kk H1 _ (hW.set (e := .inl (0, n, .inl (upd f i.toNatClampNeg x))) ha ?_ z oq)
  show H1[(gH G).size + a]? = some (vp_cell (gA G 0) (n, .inl (upd f i.toNatClampNeg x)))
  rw [e]
  show some (Cell.setSlot (vp_cell (gA G 0) (n, .inl f)) _ _) = _
  rw [vp_cell_i, vp_cell_i, arrV_store]
  congr 2
  funext q
  by_cases hq : q = i.toNatClampNeg
  · subst hq
    simp [updV, upd]
    try rfl
  · simp [updV, upd, hq]
theorem o_wlast {n : Nat} {f : Nat → Int64} {i : Int32} {x : Int64} (hx : p.tables.exec = Jvm.exec) (hb : cd.code = cc) (hSf : o_Sf G s) (hW : o_Wd G h H locs) (ha : h[a]? = some (.inl (1, n, .inr (.inl f)))) (hin : vp_in i n) (hd : decode cc pc = .ok (.lastore, 1))
    (kk : ∀ (H1 : Heap) (locs1 : List Loc), o_Wd G (h.set a (.inl (1, n, .inr (.inl (vp_updL f i.toNatClampNeg x))))) H1 locs1 → W p (gl G) e R s m args below meth cd H1 locs1 cells slots Q (F0 m (pc + 1) ls rest)) : W p (gl G) e R s m args below meth cd H locs cells slots Q (F0 m pc ls (.long x :: .int i :: .ref ((gH G).size + a) :: rest)) := by
  refine W.last hx hb (hW.1 a _ (o_ws_at ha)) ((hSf.1.2 1 _ rfl).1 n (fun j => .long (f j))) (fun q => by cases q) (by show ¬ (i < 0 ∨ (arrV _ _ _).slots.size ≤ _); rw [arrV_size]; exact hin) rfl rfl hd fun H1 e z oq => ?_
  refine kk H1 _ (hW.set (e := .inl (1, n, .inr (.inl (vp_updL f i.toNatClampNeg x)))) ha ?_ z oq)
  show H1[(gH G).size + a]? = some (vp_cell (gA G 1) (n, .inr (.inl (vp_updL f i.toNatClampNeg x))))
  rw [e]
  show some (Cell.setSlot (vp_cell (gA G 1) (n, .inr (.inl f))) _ _) = _
  rw [vp_cell_l, vp_cell_l, arrV_store]
  congr 2
  funext q
  by_cases hq : q = i.toNatClampNeg
  · subst hq
    simp [updV, vp_updL]
    try rfl
  · simp [updV, vp_updL, hq]
theorem o_wzast {n : Nat} {f : Nat → Int32} {i : Int32} {x : Int32} (hx : p.tables.exec = Jvm.exec) (hb : cd.code = cc) (hSf : o_Sf G s) (hW : o_Wd G h H locs) (ha : h[a]? = some (.inl (2, n, .inl f))) (hin : vp_in i n) (hd : decode cc pc = .ok (.bastore, 1))
    (kk : ∀ (H1 : Heap) (locs1 : List Loc), o_Wd G (h.set a (.inl (2, n, .inl (upd f i.toNatClampNeg (vp_nar .boolean x))))) H1 locs1 → W p (gl G) e R s m args below meth cd H1 locs1 cells slots Q (F0 m (pc + 1) ls rest)) : W p (gl G) e R s m args below meth cd H locs cells slots Q (F0 m pc ls (.int x :: .int i :: .ref ((gH G).size + a) :: rest)) := by
  refine W.zast hx hb (hW.1 a _ (o_ws_at ha)) ((hSf.1.2 2 _ rfl).1 n (fun j => .int (f j))) (fun q => by cases q) (by show ¬ (i < 0 ∨ (arrV _ _ _).slots.size ≤ _); rw [arrV_size]; exact hin) rfl rfl hd fun H1 e z oq => ?_
  refine kk H1 _ (hW.set (e := .inl (2, n, .inl (upd f i.toNatClampNeg (vp_nar .boolean x)))) ha ?_ z oq)
  show H1[(gH G).size + a]? = some (vp_cell (gA G 2) (n, .inl (upd f i.toNatClampNeg (vp_nar .boolean x))))
  rw [e]
  show some (Cell.setSlot (vp_cell (gA G 2) (n, .inl f)) _ _) = _
  rw [vp_cell_i, vp_cell_i, arrV_store]
  congr 2
  funext q
  by_cases hq : q = i.toNatClampNeg
  · subst hq
    simp [updV, upd, vp_nar]
    try rfl
  · simp [updV, upd, vp_nar, hq]
theorem o_rfE {G : oG} {f : Nat → Option Nat} {t n : Nat} : o_rE G (.inl (t, n, .inr (.inr (.inr (.inr f))))) = .inl (gA G t, n, .inr (.inr (.inr (.inr (fun j => (f j).map (o_ad G)))))) := rfl
theorem o_waast {n t b : Nat} {E : String} {f : Nat → Option Nat} {i : Int32} {vs : List Value} (hx : p.tables.exec = Jvm.exec) (hb : cd.code = cc) (hSf : o_Sf G s) (hW : o_Wd G h H locs) (ha : h[a]? = some (.inl (t, n, .inr (.inr (.inr (.inr f)))))) (ht : (o_tys G)[t]? = some (gA G t, .object E)) (hv : h[b]? = some (.inr (ci, vs))) (hC : o_Cl ci E T N ty) (hin : vp_in i n) (hd : decode cc pc = .ok (.aastore, 1))
    (kk : ∀ (H1 : Heap) (locs1 : List Loc), o_Wd G (h.set a (.inl (t, n, .inr (.inr (.inr (.inr (va_up f i.toNatClampNeg (some (b + 1))))))))) H1 locs1 → W p (gl G) e R s m args below meth cd H1 locs1 cells slots Q (F0 m (pc + 1) ls rest)) : W p (gl G) e R s m args below meth cd H locs cells slots Q (F0 m pc ls (.ref ((gH G).size + b) :: .int i :: .ref ((gH G).size + a) :: rest)) := by
  have hlt : i.toNatClampNeg < n := Nat.not_le.mp fun q => hin (Or.inr q)
  have h0 : ¬ i < 0 := fun q => hin (Or.inl q)
  obtain ⟨r', hr', cellV, g1, g2, g3, -⟩ := hW.1 b _ (o_ws_at hv)
  have hcls := (hSf.1.1 ci _ hC.1).2
  obtain ⟨kA, comp, k1, k2, k3, -⟩ := (hSf.1.2 t _ ht).2
  have hcomp : comp = (gD G).1 ci := Option.some.inj (k3.symm.trans hcls.1)
  subst hcomp
  have hcls2 := hcls
  obtain ⟨kC, hkC, -⟩ := hcls.2
  refine W.aast hx hb (hW.1 a _ (o_ws_at ha)) (fun q h => by cases h) (fun h => by cases h) k1 k2 rfl hkC ⟨h0, by show _ < (arrV _ _ _).slots.size; rw [arrV_size]; exact hlt⟩ g1 (fun q h => by rw [g3] at h; cases h) (by rw [g2]; exact hkC) (by rw [g2]; exact va_assign hcls2) rfl rfl hd fun H1 e z oq => ?_
  refine kk H1 _ (hW.set (e := .inl (t, n, .inr (.inr (.inr (.inr (va_up f i.toNatClampNeg (some (b + 1)))))))) ha ?_ z oq)
  show H1[(gH G).size + a]? = some (vp_cell (gA G t) (n, .inr (.inr (.inr (.inr (fun j => (va_up f i.toNatClampNeg (some (b + 1)) j).map (o_ad G)))))))
  rw [e]
  show some (Cell.setSlot (vp_cell (gA G t) (n, .inr (.inr (.inr (.inr (fun j => (f j).map (o_ad G)))))) ) _ _) = _
  rw [vp_cell_q, vp_cell_q, arrV_store]
  congr 2
  funext q
  by_cases hq : q = i.toNatClampNeg
  · subst hq
    simp [updV, va_up, va_rf, o_ad]
  · simp [updV, va_up, hq]
/-- behind a call -/
theorem o_cont {mc ms : Nat} {P : oP} {as : Array Value} {st0 : List Value} (hr : va_Run p (gl G) e R s m args below meth cd H locs cells slots mc ms (F0 m pc ls st0) rest (o_Qc G P as) (o_A G)) (hW : o_Wd G h H locs)
    (kk : ∀ (v : Option Value) (h' : oH) (H' : Heap) (locs' : List Loc), P v h' → o_Wd G h' H' locs' → W p (gl G) e R s m args below meth cd H' locs' (cells + mc) (slots + ms) Q (F0 m (pc + 3) ls ((v.map (o_rl G)).toList ++ rest))) : W p (gl G) e R s m args below meth cd H locs cells slots Q (F0 m pc ls st0) := by
  intro T hT X
  obtain ⟨v, st₀, t, T', L, e0, X', hL, e1, e2, ⟨v', h', hP, hv, hW'⟩, st⟩ := hr T hT X
  have hv' : v = v'.map (o_rl G) := by injection hv
  subst hv'
  have hW2 : o_Wd G h' T'.heap (locs ++ L) := by
    rw [e1]
    refine ⟨hW'.1, hW'.2.1, ⟨hW'.2.2.1.1, hW'.2.2.1.2.1, fun q hq => ?_⟩, hW'.2.2.2⟩
    rcases List.mem_append.mp hq with h1 | h1
    · exact hW.2.2.1.2.2 q h1
    · exact hL q h1
  obtain ⟨t2, a1, b1⟩ := kk v' h' T'.heap (locs ++ L) hP hW2 T' rfl X'
  exact ⟨t2, st t2 a1, b1⟩
end OW
section OJ
variable {G : oG} {M : oM} {Post : oP} {pc : Nat} {K : oK}
def o_getf (ci k : Nat) (K : oK) : oK := fun c s L st h => match st with
  | v :: r => match o_get h v with
    | some (.inr (cj, fs)) => cj = ci ∧ match fs[k]? with
      | some x => K c s L (x :: r) h
      | none => False
    | _ => False
  | _ => False
theorem so_getf {ci k N index : Nat} {C : String} {T : u_T} {ty : Nat → FieldType} (hC : o_Cl ci C T N ty) (hk : k < N) (hw : Cond.fieldLink (mY M).cls index (T k).1 (T k).2.1 (T k).2.2.1 ∈ o_TT) (hd : decode (mC M) pc = .ok (.getfield index, 3)) (kn : oS G M Post (pc + 3) K) : oS G M Post pc (o_getf ci k K) := by
  intro c s L st h hk2
  unfold o_getf at hk2
  split at hk2
  · split at hk2
    · rename_i v r _ cj fs hg
      obtain ⟨hc1, hk3⟩ := hk2
      subst hc1
      split at hk3
      · rename_i x hx
        obtain ⟨a, rfl, ha⟩ := o_get_spec hg
        intro p e R s0 m args below meth cd Q H locs cells slots ls hE hW hc hs hl
        exact va_get hE.1 hE.2.1 hE.2.2.2.2.2.1 hC.2.1 hE.2.2.2.1 hE.2.2.2.2.2.2.2.2.1.1 hW.1 a (o_ws_at ha) hC.1 k hk (hE.2.2.2.2.2.1 _ hw) (fun _ q => q) (by rw [List.getElem?_map, hx]; rfl) hd (kn _ _ _ _ _ hk3 p e R s0 m args below meth cd Q H locs cells slots ls hE hW hc hs hl)
      · exact hk3.elim
    · exact hk2.elim
  · exact hk2.elim
theorem so_getfN {ci k N index : Nat} {C : String} {T : u_T} {ty : Nat → FieldType} (hC : o_Cl ci C T N ty) (hk : k < N) {host : String} (hw : Cond.fieldLinkNest (mY M).cls index (T k).1 (T k).2.1 (T k).2.2.1 host ∈ o_NW) (hd : decode (mC M) pc = .ok (.getfield index, 3)) (kn : oS G M Post (pc + 3) K) : oS G M Post pc (o_getf ci k K) := by
  intro c s L st h hk2
  unfold o_getf at hk2
  split at hk2
  · split at hk2
    · rename_i v r _ cj fs hg
      obtain ⟨hc1, hk3⟩ := hk2
      subst hc1
      split at hk3
      · rename_i x hx
        obtain ⟨a, rfl, ha⟩ := o_get_spec hg
        intro p e R s0 m args below meth cd Q H locs cells slots ls hE hW hc hs hl
        exact va_getN hE.1 hE.2.1 hE.2.2.2.2.2.1 hC.2.1 hE.2.2.2.1 hE.2.2.2.2.2.2.2.2.1.1 hW.1 a (o_ws_at ha) hC.1 k hk (va_Nw.use rfl (hE.2.2.2.2.2.2.2.2.1.2.2.2.1 _ hw)) (fun _ q => q) (by rw [List.getElem?_map, hx]; rfl) hd (kn _ _ _ _ _ hk3 p e R s0 m args below meth cd Q H locs cells slots ls hE hW hc hs hl)
      · exact hk3.elim
    · exact hk2.elim
  · exact hk2.elim
def o_putfI (ci k : Nat) (K : oK) : oK := fun c s L st h => match st with
  | .int x :: v :: r => match o_get h v with
    | some (.inr (cj, fs)) => (cj = ci ∧ k < fs.length) ∧ K c s L r (h.set (o_ix v) (.inr (ci, fs.set k (.int x))))
    | _ => False
  | _ => False
def o_putfR (ci k : Nat) (K : oK) : oK := fun c s L st h => match st with
  | .ref x :: v :: r => match o_get h v with
    | some (.inr (cj, fs)) => (cj = ci ∧ k < fs.length) ∧ K c s L r (h.set (o_ix v) (.inr (ci, fs.set k (.ref x))))
    | _ => False
  | _ => False
theorem so_putfI {ci k N index : Nat} {C : String} {T : u_T} {ty : Nat → FieldType} (hC : o_Cl ci C T N ty) (hk : k < N) (hty : ty k = .int) (hfin : (T k).2.2.2 = false) (hw : Cond.fieldLink (mY M).cls index (T k).1 (T k).2.1 (T k).2.2.1 ∈ o_TT) (hd : decode (mC M) pc = .ok (.putfield index, 3)) (kn : oS G M Post (pc + 3) K) : oS G M Post pc (o_putfI ci k K) := by
  intro c s L st h hk2
  unfold o_putfI at hk2
  split at hk2
  · split at hk2
    · rename_i x v r _ cj fs hg
      obtain ⟨⟨hc1, hlen⟩, hk3⟩ := hk2
      subst hc1
      obtain ⟨a, rfl, ha⟩ := o_get_spec hg
      intro p e R s0 m args below meth cd Q H locs cells slots ls hE hW hc hs hl
      exact o_wput (v := .int x) hE.1 hE.2.1 hE.2.2.2.2.2.1 hE.2.2.2.1 hE.2.2.2.2.2.2.2.2.1 hC hW ha hk (hE.2.2.2.2.2.1 _ hw) hfin (by rw [hty]; rfl) (by rw [hty]; rfl) hlen hd (fun H1 locs1 hW1 => kn _ _ _ _ _ hk3 p e R s0 m args below meth cd Q H1 locs1 cells slots ls hE hW1 hc hs hl)
    · exact hk2.elim
  · exact hk2.elim
theorem so_putfIN {ci k N index : Nat} {C : String} {T : u_T} {ty : Nat → FieldType} (hC : o_Cl ci C T N ty) (hk : k < N) (hty : ty k = .int) (hfin : (T k).2.2.2 = false) {host : String} (hw : Cond.fieldLinkNest (mY M).cls index (T k).1 (T k).2.1 (T k).2.2.1 host ∈ o_NW) (hd : decode (mC M) pc = .ok (.putfield index, 3)) (kn : oS G M Post (pc + 3) K) : oS G M Post pc (o_putfI ci k K) := by
  intro c s L st h hk2
  unfold o_putfI at hk2
  split at hk2
  · split at hk2
    · rename_i x v r _ cj fs hg
      obtain ⟨⟨hc1, hlen⟩, hk3⟩ := hk2
      subst hc1
      obtain ⟨a, rfl, ha⟩ := o_get_spec hg
      intro p e R s0 m args below meth cd Q H locs cells slots ls hE hW hc hs hl
      exact o_wputN (v := .int x) hE.1 hE.2.1 hE.2.2.2.2.2.1 hE.2.2.2.1 hE.2.2.2.2.2.2.2.2.1 hC hW ha hk (va_Nw.use rfl (hE.2.2.2.2.2.2.2.2.1.2.2.2.1 _ hw)) hfin (by rw [hty]; rfl) (by rw [hty]; rfl) hlen hd (fun H1 locs1 hW1 => kn _ _ _ _ _ hk3 p e R s0 m args below meth cd Q H1 locs1 cells slots ls hE hW1 hc hs hl)
    · exact hk2.elim
  · exact hk2.elim
theorem so_putfIF {ci k N index : Nat} {C : String} {T : u_T} {ty : Nat → FieldType} (hC : o_Cl ci C T N ty) (hk : k < N) (hty : ty k = .int) (hfin : (T k).2.2.2 = true) (hin2 : (mY M).name = "<init>") (hdecl : (T k).1 = (mY M).cls) (hw : Cond.fieldLink (mY M).cls index (T k).1 (T k).2.1 (T k).2.2.1 ∈ o_TT) (hd : decode (mC M) pc = .ok (.putfield index, 3)) (kn : oS G M Post (pc + 3) K) : oS G M Post pc (o_putfI ci k K) := by
  intro c s L st h hk2
  unfold o_putfI at hk2
  split at hk2
  · split at hk2
    · rename_i x v r _ cj fs hg
      obtain ⟨⟨hc1, hlen⟩, hk3⟩ := hk2
      subst hc1
      obtain ⟨a, rfl, ha⟩ := o_get_spec hg
      intro p e R s0 m args below meth cd Q H locs cells slots ls hE hW hc hs hl
      exact o_wputF (v := .int x) hE.1 hE.2.1 hE.2.2.2.2.2.1 hE.2.2.2.1 hE.2.2.2.2.2.2.2.2.1 hC hW ha hk (hE.2.2.2.2.2.1 _ hw) hfin (hE.2.2.2.2.1.trans hin2) hdecl (by rw [hty]; rfl) (by rw [hty]; rfl) hlen hd (fun H1 locs1 hW1 => kn _ _ _ _ _ hk3 p e R s0 m args below meth cd Q H1 locs1 cells slots ls hE hW1 hc hs hl)
    · exact hk2.elim
  · exact hk2.elim
theorem so_putfR {ci k N index : Nat} {C : String} {T : u_T} {ty : Nat → FieldType} (hC : o_Cl ci C T N ty) (hk : k < N) (hty : (∃ E, ty k = .object E) ∨ (∃ E, ty k = .array E)) (hfin : (T k).2.2.2 = false) (hw : Cond.fieldLink (mY M).cls index (T k).1 (T k).2.1 (T k).2.2.1 ∈ o_TT) (hd : decode (mC M) pc = .ok (.putfield index, 3)) (kn : oS G M Post (pc + 3) K) : oS G M Post pc (o_putfR ci k K) := by
  intro c s L st h hk2
  unfold o_putfR at hk2
  split at hk2
  · split at hk2
    · rename_i x v r _ cj fs hg
      obtain ⟨⟨hc1, hlen⟩, hk3⟩ := hk2
      subst hc1
      obtain ⟨a, rfl, ha⟩ := o_get_spec hg
      intro p e R s0 m args below meth cd Q H locs cells slots ls hE hW hc hs hl
      exact o_wput (v := .ref x) hE.1 hE.2.1 hE.2.2.2.2.2.1 hE.2.2.2.1 hE.2.2.2.2.2.2.2.2.1 hC hW ha hk (hE.2.2.2.2.2.1 _ hw) hfin (by rcases hty with ⟨E, q⟩ | ⟨E, q⟩ <;> rw [q] <;> rfl) (by rcases hty with ⟨E, q⟩ | ⟨E, q⟩ <;> rw [q] <;> rfl) hlen hd (fun H1 locs1 hW1 => kn _ _ _ _ _ hk3 p e R s0 m args below meth cd Q H1 locs1 cells slots ls hE hW1 hc hs hl)
    · exact hk2.elim
  · exact hk2.elim
theorem so_putfRN {ci k N index : Nat} {C : String} {T : u_T} {ty : Nat → FieldType} (hC : o_Cl ci C T N ty) (hk : k < N) (hty : (∃ E, ty k = .object E) ∨ (∃ E, ty k = .array E)) (hfin : (T k).2.2.2 = false) {host : String} (hw : Cond.fieldLinkNest (mY M).cls index (T k).1 (T k).2.1 (T k).2.2.1 host ∈ o_NW) (hd : decode (mC M) pc = .ok (.putfield index, 3)) (kn : oS G M Post (pc + 3) K) : oS G M Post pc (o_putfR ci k K) := by
  intro c s L st h hk2
  unfold o_putfR at hk2
  split at hk2
  · split at hk2
    · rename_i x v r _ cj fs hg
      obtain ⟨⟨hc1, hlen⟩, hk3⟩ := hk2
      subst hc1
      obtain ⟨a, rfl, ha⟩ := o_get_spec hg
      intro p e R s0 m args below meth cd Q H locs cells slots ls hE hW hc hs hl
      exact o_wputN (v := .ref x) hE.1 hE.2.1 hE.2.2.2.2.2.1 hE.2.2.2.1 hE.2.2.2.2.2.2.2.2.1 hC hW ha hk (va_Nw.use rfl (hE.2.2.2.2.2.2.2.2.1.2.2.2.1 _ hw)) hfin (by rcases hty with ⟨E, q⟩ | ⟨E, q⟩ <;> rw [q] <;> rfl) (by rcases hty with ⟨E, q⟩ | ⟨E, q⟩ <;> rw [q] <;> rfl) hlen hd (fun H1 locs1 hW1 => kn _ _ _ _ _ hk3 p e R s0 m args below meth cd Q H1 locs1 cells slots ls hE hW1 hc hs hl)
    · exact hk2.elim
  · exact hk2.elim
theorem so_putfRF {ci k N index : Nat} {C : String} {T : u_T} {ty : Nat → FieldType} (hC : o_Cl ci C T N ty) (hk : k < N) (hty : (∃ E, ty k = .object E) ∨ (∃ E, ty k = .array E)) (hfin : (T k).2.2.2 = true) (hin2 : (mY M).name = "<init>") (hdecl : (T k).1 = (mY M).cls) (hw : Cond.fieldLink (mY M).cls index (T k).1 (T k).2.1 (T k).2.2.1 ∈ o_TT) (hd : decode (mC M) pc = .ok (.putfield index, 3)) (kn : oS G M Post (pc + 3) K) : oS G M Post pc (o_putfR ci k K) := by
  intro c s L st h hk2
  unfold o_putfR at hk2
  split at hk2
  · split at hk2
    · rename_i x v r _ cj fs hg
      obtain ⟨⟨hc1, hlen⟩, hk3⟩ := hk2
      subst hc1
      obtain ⟨a, rfl, ha⟩ := o_get_spec hg
      intro p e R s0 m args below meth cd Q H locs cells slots ls hE hW hc hs hl
      exact o_wputF (v := .ref x) hE.1 hE.2.1 hE.2.2.2.2.2.1 hE.2.2.2.1 hE.2.2.2.2.2.2.2.2.1 hC hW ha hk (hE.2.2.2.2.2.1 _ hw) hfin (hE.2.2.2.2.1.trans hin2) hdecl (by rcases hty with ⟨E, q⟩ | ⟨E, q⟩ <;> rw [q] <;> rfl) (by rcases hty with ⟨E, q⟩ | ⟨E, q⟩ <;> rw [q] <;> rfl) hlen hd (fun H1 locs1 hW1 => kn _ _ _ _ _ hk3 p e R s0 m args below meth cd Q H1 locs1 cells slots ls hE hW1 hc hs hl)
    · exact hk2.elim
  · exact hk2.elim
def o_ints (G : oG) (h : oH) (v : Value) : Option (Nat × (Nat → Int32)) := match v with
  | .ref 0 => some (gn G, gx G)
  | .ref (a + 1) => match h[a]? with
    | some (.inl (t, n, .inl f)) => if t = 0 then some (n, f) else none
    | _ => none
  | _ => none
theorem o_ints_spec {h : oH} {v : Value} {n : Nat} {f : Nat → Int32} (hg : o_ints G h v = some (n, f)) : (v = .ref 0 ∧ n = gn G ∧ f = gx G) ∨ ∃ a : Nat, v = .ref (a + 1) ∧ h[a]? = some (.inl (0, n, .inl f)) := by
  unfold o_ints at hg
  split at hg
  · left
    cases hg
    exact ⟨rfl, rfl, rfl⟩
  · right
    rename_i a
    split at hg
    · rename_i t n' f' ha
      split at hg
      · rename_i ht
        subst ht
        cases hg
        exact ⟨a, rfl, ha⟩
      · cases hg
    · cases hg
  · cases hg
def o_iald (G : oG) (K : oK) : oK := fun c s L st h => match st with
  | .int i :: v :: r => match o_ints G h v with
    | some (n, f) => vp_in i n ∧ K c s L (.int (f i.toNatClampNeg) :: r) h
    | none => False
  | _ => False
theorem so_iald (hd : decode (mC M) pc = .ok (.iaload, 1)) (kn : oS G M Post (pc + 1) K) : oS G M Post pc (o_iald G K) := by
  intro c s L st h hk2
  unfold o_iald at hk2
  split at hk2
  · split at hk2
    · rename_i i v r _ n f hg
      intro p e R s0 m args below meth cd Q H locs cells slots ls hE hW hc hs hl
      have hX := hE.2.2.2.2.2.2.2.2.1
      rcases o_ints_spec hg with ⟨rfl, rfl, rfl⟩ | ⟨a, rfl, ha⟩
      · exact va_sld (A := o_A G) hE.1 hE.2.1 hX.2.1 hX.2.2.1 (fun q => Nat.lt_irrefl _ (Nat.lt_of_lt_of_le hX.2.2.1 q)) hW.2.2.1 hk2.1 hd (kn _ _ _ _ _ hk2.2 p e R s0 m args below meth cd Q H locs cells slots ls hE hW hc hs hl)
      · exact va_iald hE.1 hE.2.1 hX.1 hW.1 a 0 (o_ws_at ha) rfl hk2.1 hd (kn _ _ _ _ _ hk2.2 p e R s0 m args below meth cd Q H locs cells slots ls hE hW hc hs hl)
    · exact hk2.elim
  · exact hk2.elim
def o_alen (G : oG) (K : oK) : oK := fun c s L st h => match st with
  | v :: r => match o_ints G h v with
    | some (n, _) => K c s L (.int (Int32.ofNat n) :: r) h
    | none => False
  | _ => False
theorem so_alen (hd : decode (mC M) pc = .ok (.arraylength, 1)) (kn : oS G M Post (pc + 1) K) : oS G M Post pc (o_alen G K) := by
  intro c s L st h hk2
  unfold o_alen at hk2
  split at hk2
  · split at hk2
    · rename_i v r _ n f hg
      intro p e R s0 m args below meth cd Q H locs cells slots ls hE hW hc hs hl
      have hX := hE.2.2.2.2.2.2.2.2.1
      rcases o_ints_spec hg with ⟨rfl, rfl, rfl⟩ | ⟨a, rfl, ha⟩
      · exact va_slen (A := o_A G) hE.1 hE.2.1 hX.2.1 hX.2.2.1 (fun q => Nat.lt_irrefl _ (Nat.lt_of_lt_of_le hX.2.2.1 q)) hW.2.2.1 hd (kn _ _ _ _ _ hk2 p e R s0 m args below meth cd Q H locs cells slots ls hE hW hc hs hl)
      · exact va_alen hE.1 hE.2.1 hX.1 hW.1 a 0 (o_ws_at ha) rfl rfl hd (kn _ _ _ _ _ hk2 p e R s0 m args below meth cd Q H locs cells slots ls hE hW hc hs hl)
    · exact hk2.elim
  · exact hk2.elim
def o_lald (K : oK) : oK := fun c s L st h => match st with
  | .int i :: v :: r => match o_get h v with
    | some (.inl (t, n, .inr (.inl f))) => t = 1 ∧ vp_in i n ∧ K c s L (.long (f i.toNatClampNeg) :: r) h
    | _ => False
  | _ => False
theorem so_lald (hd : decode (mC M) pc = .ok (.laload, 1)) (kn : oS G M Post (pc + 1) K) : oS G M Post pc (o_lald K) := by
  intro c s L st h hk2
  unfold o_lald at hk2
  split at hk2
  · split at hk2
    · rename_i i v r _ t n f hg
      obtain ⟨rfl, hin, hk3⟩ := hk2
      obtain ⟨a, rfl, ha⟩ := o_get_spec hg
      intro p e R s0 m args below meth cd Q H locs cells slots ls hE hW hc hs hl
      exact va_lald hE.1 hE.2.1 hE.2.2.2.2.2.2.2.2.1.1 hW.1 a 1 (o_ws_at ha) rfl hin hd (kn _ _ _ _ _ hk3 p e R s0 m args below meth cd Q H locs cells slots ls hE hW hc hs hl)
    · exact hk2.elim
  · exact hk2.elim
def o_zald (K : oK) : oK := fun c s L st h => match st with
  | .int i :: v :: r => match o_get h v with
    | some (.inl (t, n, .inl f)) => t = 2 ∧ vp_in i n ∧ K c s L (.int (f i.toNatClampNeg) :: r) h
    | _ => False
  | _ => False
theorem so_zald (hd : decode (mC M) pc = .ok (.baload, 1)) (kn : oS G M Post (pc + 1) K) : oS G M Post pc (o_zald K) := by
  intro c s L st h hk2
  unfold o_zald at hk2
  split at hk2
  · split at hk2
    · rename_i i v r _ t n f hg
      obtain ⟨rfl, hin, hk3⟩ := hk2
      obtain ⟨a, rfl, ha⟩ := o_get_spec hg
      intro p e R s0 m args below meth cd Q H locs cells slots ls hE hW hc hs hl
      exact va_zald hE.1 hE.2.1 hE.2.2.2.2.2.2.2.2.1.1 hW.1 a 2 (o_ws_at ha) rfl hin hd (kn _ _ _ _ _ hk3 p e R s0 m args below meth cd Q H locs cells slots ls hE hW hc hs hl)
    · exact hk2.elim
  · exact hk2.elim
def o_iast (K : oK) : oK := fun c s L st h => match st with
  | .int x :: .int i :: v :: r => match o_get h v with
    | some (.inl (t, n, .inl f)) => t = 0 ∧ vp_in i n ∧ K c s L r (h.set (o_ix v) (.inl (t, n, .inl (upd f i.toNatClampNeg x))))
    | _ => False
  | _ => False
theorem so_iast (hd : decode (mC M) pc = .ok (.iastore, 1)) (kn : oS G M Post (pc + 1) K) : oS G M Post pc (o_iast K) := by
  intro c s L st h hk2
  unfold o_iast at hk2
  split at hk2
  · split at hk2
    · rename_i x i v r _ t n f hg
      obtain ⟨rfl, hin, hk3⟩ := hk2
      obtain ⟨a, rfl, ha⟩ := o_get_spec hg
      intro p e R s0 m args below meth cd Q H locs cells slots ls hE hW hc hs hl
      exact o_wiast hE.1 hE.2.1 hE.2.2.2.2.2.2.2.2.1 hW ha hin hd (fun H1 locs1 hW1 => kn _ _ _ _ _ hk3 p e R s0 m args below meth cd Q H1 locs1 cells slots ls hE hW1 hc hs hl)
    · exact hk2.elim
  · exact hk2.elim
def o_last (K : oK) : oK := fun c s L st h => match st with
  | .long x :: .int i :: v :: r => match o_get h v with
    | some (.inl (t, n, .inr (.inl f))) => t = 1 ∧ vp_in i n ∧ K c s L r (h.set (o_ix v) (.inl (t, n, .inr (.inl (vp_updL f i.toNatClampNeg x)))))
    | _ => False
  | _ => False
theorem so_last (hd : decode (mC M) pc = .ok (.lastore, 1)) (kn : oS G M Post (pc + 1) K) : oS G M Post pc (o_last K) := by
  intro c s L st h hk2
  unfold o_last at hk2
  split at hk2
  · split at hk2
    · rename_i x i v r _ t n f hg
      obtain ⟨rfl, hin, hk3⟩ := hk2
      obtain ⟨a, rfl, ha⟩ := o_get_spec hg
      intro p e R s0 m args below meth cd Q H locs cells slots ls hE hW hc hs hl
      exact o_wlast hE.1 hE.2.1 hE.2.2.2.2.2.2.2.2.1 hW ha hin hd (fun H1 locs1 hW1 => kn _ _ _ _ _ hk3 p e R s0 m args below meth cd Q H1 locs1 cells slots ls hE hW1 hc hs hl)
    · exact hk2.elim
  · exact hk2.elim
def o_zast (K : oK) : oK := fun c s L st h => match st with
  | .int x :: .int i :: v :: r => match o_get h v with
    | some (.inl (t, n, .inl f)) => t = 2 ∧ vp_in i n ∧ K c s L r (h.set (o_ix v) (.inl (t, n, .inl (upd f i.toNatClampNeg (vp_nar .boolean x)))))
    | _ => False
  | _ => False
theorem so_zast (hd : decode (mC M) pc = .ok (.bastore, 1)) (kn : oS G M Post (pc + 1) K) : oS G M Post pc (o_zast K) := by
  intro c s L st h hk2
  unfold o_zast at hk2
  split at hk2
  · split at hk2
    · rename_i x i v r _ t n f hg
      obtain ⟨rfl, hin, hk3⟩ := hk2
      obtain ⟨a, rfl, ha⟩ := o_get_spec hg
      intro p e R s0 m args below meth cd Q H locs cells slots ls hE hW hc hs hl
      exact o_wzast hE.1 hE.2.1 hE.2.2.2.2.2.2.2.2.1 hW ha hin hd (fun H1 locs1 hW1 => kn _ _ _ _ _ hk3 p e R s0 m args below meth cd Q H1 locs1 cells slots ls hE hW1 hc hs hl)
    · exact hk2.elim
  · exact hk2.elim
/-- a place of an array of objects that has been filled -/
def o_aald (tt : Nat) (K : oK) : oK := fun c s L st h => match st with
  | .int i :: v :: r => match o_get h v with
    | some (.inl (t, n, .inr (.inr (.inr (.inr f))))) => t = tt ∧ vp_in i n ∧ match f i.toNatClampNeg with
      | some b => K c s L (.ref b :: r) h
      | none => False
    | _ => False
  | _ => False
theorem so_aald {tt : Nat} {E : String} (hd : decode (mC M) pc = .ok (.aaload, 1)) (ht : (o_tys G)[tt]? = some (gA G tt, .object E)) (kn : oS G M Post (pc + 1) K) : oS G M Post pc (o_aald tt K) := by
  intro c s L st h hk2
  unfold o_aald at hk2
  split at hk2
  · split at hk2
    · rename_i i v r _ t n f hg
      obtain ⟨rfl, hin, hk3⟩ := hk2
      split at hk3
      · rename_i b hf
        obtain ⟨a, rfl, ha⟩ := o_get_spec hg
        intro p e R s0 m args below meth cd Q H locs cells slots ls hE hW hc hs hl
        refine va_aldq hE.1 hE.2.1 hE.2.2.2.2.2.2.2.2.1.1 hW.1 a t (o_ws_at ha) ht hin hd ?_
        rw [hf]
        exact kn _ _ _ _ _ hk3 p e R s0 m args below meth cd Q H locs cells slots ls hE hW hc hs hl
      · exact hk3.elim
    · exact hk2.elim
  · exact hk2.elim
def o_aast (tt ci : Nat) (K : oK) : oK := fun c s L st h => match st with
  | .ref (b + 1) :: .int i :: v :: r => match o_get h v with
    | some (.inl (t, n, .inr (.inr (.inr (.inr f))))) => t = tt ∧ vp_in i n ∧ match h[b]? with
      | some (.inr (cj, _)) => cj = ci ∧ K c s L r (h.set (o_ix v) (.inl (t, n, .inr (.inr (.inr (.inr (va_up f i.toNatClampNeg (some (b + 1)))))))))
      | _ => False
    | _ => False
  | _ => False
theorem so_aast {tt ci N : Nat} {E : String} {T : u_T} {ty : Nat → FieldType} (hC : o_Cl ci E T N ty) (hd : decode (mC M) pc = .ok (.aastore, 1)) (ht : (o_tys G)[tt]? = some (gA G tt, .object E)) (kn : oS G M Post (pc + 1) K) : oS G M Post pc (o_aast tt ci K) := by
  intro c s L st h hk2
  unfold o_aast at hk2
  split at hk2
  · split at hk2
    · rename_i b i v r _ t n f hg
      obtain ⟨rfl, hin, hk3⟩ := hk2
      split at hk3
      · rename_i cj vs hb
        obtain ⟨rfl, hk4⟩ := hk3
        obtain ⟨a, rfl, ha⟩ := o_get_spec hg
        intro p e R s0 m args below meth cd Q H locs cells slots ls hE hW hc hs hl
        exact o_waast hE.1 hE.2.1 hE.2.2.2.2.2.2.2.2.1 hW ha ht hb hC hin hd (fun H1 locs1 hW1 => kn _ _ _ _ _ hk4 p e R s0 m args below meth cd Q H1 locs1 cells slots ls hE hW1 hc hs hl)
      · exact hk3.elim
    · exact hk2.elim
  · exact hk2.elim
-- new cells
def o_new (ci : Nat) (fs : List Value) (K : oK) : oK := fun c s L st h => 1 ≤ c ∧ fs.length ≤ s ∧ K (c - 1) (s - fs.length) L (.ref (h.length + 1) :: st) (h ++ [.inr (ci, fs)])
theorem so_new {ci N index : Nat} {C : String} {T : u_T} {ty : Nat → FieldType} {fs : List Value} (hC : o_Cl ci C T N ty) (h1 : Cond.classLink (mY M).cls index C ∈ o_TT) (h2 : Cond.instantiable C N ∈ o_TT) (h3 : Cond.initialized C ∈ o_TT) (hN : fs.length = N) (hfr : fs.map (o_rl G) = fs) (hfs : ∀ j, j < N → defaultValue (ty j) = vp_V fs j) (hd : decode (mC M) pc = .ok (.new index, 3)) (kn : oS G M Post (pc + 3) K) : oS G M Post pc (o_new ci fs K) := by
  intro c s L st h hk2
  obtain ⟨hc1, hs1, hk3⟩ := hk2
  intro p e R s0 m args below meth cd Q H locs cells slots ls hE hW hc hs hl
  have hts := hE.2.2.2.2.2.1
  have hKn := hE.2.2.2.2.2.2.2.2.1.1.1 ci _ hC.1
  refine W.newcK hE.1 hE.2.1 hE.2.2.2.1 (hts _ h1) (hts _ h2) (hts _ h3) rfl hd (by omega) (by omega) hKn.2.1 rfl fun H1 kC hkC e1 z1 o1 => ?_
  have hW1 : o_Wd G (h ++ [.inr (ci, fs)]) H1 locs := hW.push ⟨_, hC.1, (u_born ty hts hC.2.1 hKn hkC e1 hC.2.2.1).to (fun j hj => by show _ = vp_V (fs.map (o_rl G)) j; rw [hfr]; exact hfs j hj)⟩ z1 o1
  have kk := kn _ _ _ _ _ hk3 p e R s0 m args below meth cd Q H1 locs (cells + 1) (slots + N) ls hE hW1 (by omega) (by omega) hl
  rw [hW.2.2.2]
  exact kk
def o_newa (t : Nat) (x : (Nat → Int32) ⊕ (Nat → Int64) ⊕ (Nat → UInt32) ⊕ (Nat → UInt64) ⊕ (Nat → Option Nat)) (K : oK) : oK := fun c s L st h => match st with
  | .int n :: r => (¬ n < 0 ∧ n.toNatClampNeg ≤ 4096) ∧ 1 ≤ c ∧ n.toNatClampNeg ≤ s ∧ K (c - 1) (s - n.toNatClampNeg) L (.ref (h.length + 1) :: r) (h ++ [.inl (t, n.toNatClampNeg, x)])
  | _ => False
theorem so_newa {t : Nat} {x : (Nat → Int32) ⊕ (Nat → Int64) ⊕ (Nat → UInt32) ⊕ (Nat → UInt64) ⊕ (Nat → Option Nat)} {atype : ArrayType} {ty : FieldType} (hty : newarray.typeOf atype = ty) (hw : Cond.arrayClass ty ∈ o_TT) (ht : (o_tys G)[t]? = some (gA G t, ty)) (hob : ∀ E, ty ≠ .object E) (hby : componentBytes ty ≤ 8) (hx : o_rX G x = x) (hcl : ∀ (cA : ClassId) (n : Nat), vp_cell cA (n, x) = arrV cA n (fun _ => defaultValue ty)) (hd : decode (mC M) pc = .ok (.newarray atype, 2)) (kn : oS G M Post (pc + 2) K) : oS G M Post pc (o_newa t x K) := by
  subst hty
  intro c s L st h hk2
  unfold o_newa at hk2
  split at hk2
  · rename_i n r
    obtain ⟨⟨hn, hm⟩, hc1, hs1, hk3⟩ := hk2
    intro p e R s0 m args below meth cd Q H locs cells slots ls hE hW hc hs hl
    have hts := hE.2.2.2.2.2.1
    refine va_newaK (N := n.toNatClampNeg) hE.1 hE.2.1 (hts _ hw) rfl hd rfl hn rfl (Nat.le_trans (Nat.mul_le_mul hm hby) (by decide)) (by omega) (by omega) rfl fun H1 cA e1 z1 o1 hAr hNm => ?_
    have hcA : cA = gA G t := by
      have h9 := (hE.2.2.2.2.2.2.2.2.1.1.2 t _ ht).2
      unfold va_RA at h9
      split at h9
      · rename_i E q
        exact absurd q (hob E)
      · exact Option.some.inj (hNm.symm.trans h9)
    subst hcA
    have hW1 : o_Wd G (h ++ [.inl (t, n.toNatClampNeg, x)]) H1 locs := hW.push (by
      show H1[H.size]? = some (vp_cell (gA G t) (n.toNatClampNeg, o_rX G x))
      rw [hx, hcl]
      exact e1) z1 o1
    have kk := kn _ _ _ _ _ hk3 p e R s0 m args below meth cd Q H1 locs (cells + 1) (slots + n.toNatClampNeg) ls hE hW1 (by omega) (by omega) hl
    rw [hW.2.2.2]
    exact kk
  · exact hk2.elim
theorem so_anew {t index : Nat} {C : String} (h1 : Cond.classLink (mY M).cls index C ∈ o_TT) (h2 : C ∈ o_AO) (ht : (o_tys G)[t]? = some (gA G t, .object C)) (hd : decode (mC M) pc = .ok (.anewarray index, 3)) (kn : oS G M Post (pc + 3) K) : oS G M Post pc (o_newa t (.inr (.inr (.inr (.inr (fun _ => none))))) K) := by
  intro c s L st h hk2
  unfold o_newa at hk2
  split at hk2
  · rename_i n r
    obtain ⟨⟨hn, hm⟩, hc1, hs1, hk3⟩ := hk2
    intro p e R s0 m args below meth cd Q H locs cells slots ls hE hW hc hs hl
    have hts := hE.2.2.2.2.2.1
    refine W.anew hE.1 hE.2.1 hE.2.2.2.1 (hts _ h1) (va_AO.use (hE.2.2.2.2.2.2.2.2.1.2.2.2.2 C h2)) rfl hd rfl hn (by omega) (by omega) (by omega) fun cA kA comp f1 f2 f3 f4 => ?_
    have hcA : cA = gA G t := by
      obtain ⟨kA', comp', g1, g2, g3, g4⟩ := (hE.2.2.2.2.2.2.2.2.1.1.2 t _ ht).2
      exact Option.some.inj (f1.symm.trans g4)
    subst hcA
    have hW1 : o_Wd G (h ++ [.inl (t, n.toNatClampNeg, .inr (.inr (.inr (.inr (fun _ => none)))))]) (H.push ({ cls := gA G t, slots := Array.replicate n.toNatClampNeg .null, vm := .none } : Cell)) locs := hW.push (by
      show (H.push _)[H.size]? = some (vp_cell (gA G t) (n.toNatClampNeg, .inr (.inr (.inr (.inr (fun _ => none))))))
      rw [Array.getElem?_push_size, vp_cell_q, arrV_new]
      rfl) (by rw [Array.size_push]) (fun q hq => by rw [Array.getElem?_push, if_neg (Nat.ne_of_lt hq)])
    have kk := kn _ _ _ _ _ hk3 p e R s0 m args below meth cd Q _ locs (cells + 1) (slots + n.toNatClampNeg) ls hE hW1 (by omega) (by omega) hl
    have e9 : F0 m (pc + 3) ls (.ref H.size :: r.map (o_rl G)) = F0 m (pc + 3) ls ((Value.ref (h.length + 1) :: r).map (o_rl G)) := by
      rw [hW.2.2.2]; rfl
    exact W.eq e9 kk
  · exact hk2.elim
end OJ
/-- what the tables say of a method: its code, that its owner is ready, the number of its arguments -/
def o_Mf (M : oM) (n : Nat) : Prop := mW M ∈ o_TT ∧ Cond.initialized (mY M).cls ∈ o_TT ∧ ((mY M).cls ≠ "java/lang/invoke/MethodHandle" ∧ (mY M).cls ≠ "java/lang/invoke/VarHandle" ∧ (parseMethodDescriptor (mY M).desc).map (fun d => d.parameters.length) = some n)
theorem o_good {M : oM} (h : mW M ∈ o_TT) : GoodIn o_TT (mW M :: o_TT) := by
  intro w hw
  rcases List.mem_cons.mp hw with e | e
  · rw [e]; exact ⟨h, o_TT_good _ h⟩
  · exact ⟨e, o_TT_good _ e⟩
section OC
variable {G : oG} {M : oM} {Post : oP} {pc : Nat} {K : oK}
def o_callS (G : oG) (M' : oM) (n : Nat) (K : oK) : oK := fun c s L st h => n ≤ st.length ∧ ((st.drop n).map Value.category).sum ≤ 8 ∧ ∃ (mc ms : Nat) (P : oP), mc ≤ c ∧ ms ≤ s ∧ Mt G M' (st.take n).reverse h mc ms P ∧ ∀ (w : Option Value) (h' : oH), P w h' → K (c - mc) (s - ms) L (w.toList ++ st.drop n) h'
def o_callI (G : oG) (M' : oM) (n : Nat) (K : oK) : oK := fun c s L st h => match st.drop n with
  | .ref a :: rest => (rest.map Value.category).sum ≤ 8 ∧ ∃ (mc ms : Nat) (P : oP), mc ≤ c ∧ ms ≤ s ∧ Mt G M' (.ref a :: (st.take n).reverse) h mc ms P ∧ ∀ (w : Option Value) (h' : oH), P w h' → K (c - mc) (s - ms) L (w.toList ++ rest) h'
  | _ => False
def o_callV (G : oG) (ci : Nat) (M' : oM) (n : Nat) (K : oK) : oK := fun c s L st h => match st.drop n with
  | v :: rest => match o_get h v with
    | some (.inr (cj, _)) => cj = ci ∧ (rest.map Value.category).sum ≤ 8 ∧ ∃ (mc ms : Nat) (P : oP), mc ≤ c ∧ ms ≤ s ∧ Mt G M' (v :: (st.take n).reverse) h mc ms P ∧ ∀ (w : Option Value) (h' : oH), P w h' → K (c - mc) (s - ms) L (w.toList ++ rest) h'
    | _ => False
  | _ => False
theorem o_catsum (G : oG) (st : List Value) : ((st.map (o_rl G)).map fun v => v.category).sum = (st.map Value.category).sum := by
  rw [List.map_map]
  congr 1
  apply List.map_congr_left
  intro v _
  exact o_cat G v
theorem o_toList (G : oG) (w : Option Value) (st : List Value) : (w.map (o_rl G)).toList ++ st.map (o_rl G) = (w.toList ++ st).map (o_rl G) := by
  cases w <;> simp
theorem so_callS {M' : oM} {n index : Nat} (hM : o_Mf M' n) (hst1 : Cond.static (mY M') ∈ o_TT) (hl1 : Cond.methodLink (mY M).cls index (mY M') ∈ o_TT) (hD : mD M' < mD M) (hQ : 8 + (mL M' + 11) + mQ M' ≤ mQ M) (hd : decode (mC M) pc = .ok (.invokestatic index, 3)) (kn : oS G M Post (pc + 3) K) : oS G M Post pc (o_callS G M' n K) := by
  intro c s L st h hk2
  obtain ⟨hn, hcat, mc, ms, P, hmc, hms, hMt, hk3⟩ := hk2
  intro p e R s0 m args below meth cd Q H locs cells slots ls hE hW hc hs hl
  have hts := hE.2.2.2.2.2.1
  have hSf := hE.2.2.2.2.2.2.2.2.1
  have hfr := hE.2.2.2.2.2.2.1
  have hlo := hE.2.2.2.2.2.2.2.1
  have hR : (mRm M' mc ms).frames + 1 ≤ R.frames ∧ 8 + (mL M' + 11) + (mRm M' mc ms).locals ≤ R.locals := ⟨by show mD M' + 1 ≤ _; omega, by show 8 + (mL M' + 11) + mQ M' ≤ _; omega⟩
  have hstk : (F0 m pc ls (st.map (o_rl G))).stack = (((st.take n).reverse).map (o_rl G)).reverse ++ (st.drop n).map (o_rl G) := by
    show st.map (o_rl G) = _
    rw [List.map_reverse, List.reverse_reverse, ← List.map_append, List.take_append_drop]
  have hr := va_runS (H := H) (locs := locs) (cells := cells) (slots := slots) (e := e) (below := below) (meth := meth) (g := F0 m pc ls (st.map (o_rl G))) (n := n) ⟨hE.1, hE.2.1, hE.2.2.1, hE.2.2.2.1, hts⟩ hMt ⟨callB_of n hts (o_good hM.1) rfl rfl rfl (hts _ hM.2.1) (hts _ hl1) hM.2.2 hR, hts _ hst1⟩ (As := ((st.take n).reverse).map (o_rl G)) (rest := (st.drop n).map (o_rl G)) ⟨o_blind _ _ _, fun U hU hw => ⟨rfl, by rw [hU]; exact hW.forget, hSf.warm hw⟩⟩ rfl (by rw [List.length_map, List.length_reverse, List.length_take]; omega) hl.1 hstk (lv_room (by rw [o_catsum]; exact hcat)) hd ⟨by omega, by omega⟩
  refine o_cont hr hW fun w h' H' locs' hP hW' => ?_
  rw [o_toList]
  exact kn _ _ _ _ _ (hk3 w h' hP) p e R s0 m args below meth cd Q H' locs' (cells + mc) (slots + ms) ls hE hW' (by omega) (by omega) hl
theorem so_callI {M' : oM} {n index : Nat} (hM : o_Mf M' n) (hi1 : Cond.instanceMethod (mY M') ∈ o_TT) (hnm : (mY M').name = "<init>") (hrt : mR M' = none) (hl1 : Cond.methodLink (mY M).cls index (mY M') ∈ o_TT) (hD : mD M' < mD M) (hQ : 8 + (mL M' + 11) + mQ M' ≤ mQ M) (hd : decode (mC M) pc = .ok (.invokespecial index, 3)) (kn : oS G M Post (pc + 3) K) : oS G M Post pc (o_callI G M' n K) := by
  obtain ⟨y', cc', mL', ret', d', q'⟩ := M'
  have hrt : ret' = none := hrt
  subst hrt
  intro c s L st h hk2
  unfold o_callI at hk2
  split at hk2
  · rename_i a rest hst
    obtain ⟨hcat, mc, ms, P, hmc, hms, hMt, hk3⟩ := hk2
    intro p e R s0 m args below meth cd Q H locs cells slots ls hE hW hc hs hl
    have hts := hE.2.2.2.2.2.1
    have hSf := hE.2.2.2.2.2.2.2.2.1
    have hfr := hE.2.2.2.2.2.2.1
    have hlo := hE.2.2.2.2.2.2.2.1
    have hQ : 8 + (mL' + 11) + q' ≤ mQ M := hQ
    have hD : d' < mD M := hD
    have hR : d' + 1 ≤ R.frames ∧ 8 + (mL' + 11) + q' ≤ R.locals := ⟨by omega, by omega⟩
    have hlen : n < st.length := by
      rcases Nat.lt_or_ge n st.length with q | q
      · exact q
      · rw [List.drop_eq_nil_of_le q] at hst; cases hst
    have hstk : (F0 m pc ls (st.map (o_rl G))).stack = (((st.take n).reverse).map (o_rl G)).reverse ++ Value.ref (o_ad G a) :: rest.map (o_rl G) := by
      show st.map (o_rl G) = _
      rw [List.map_reverse, List.reverse_reverse]
      conv => lhs; rw [← List.take_append_drop n st, hst, List.map_append]
      rfl
    have hr := va_runI (H := H) (locs := locs) (cells := cells) (slots := slots) (e := e) (below := below) (meth := meth) (g := F0 m pc ls (st.map (o_rl G))) (n := n) ⟨hE.1, hE.2.1, hE.2.2.1, hE.2.2.2.1, hts⟩ hMt ⟨callB_of (ret := none) n hts (o_good hM.1) rfl rfl rfl (hts _ hM.2.1) (hts _ hl1) hM.2.2 hR, hnm, hts _ hi1⟩ (b := o_ad G a) (As := ((st.take n).reverse).map (o_rl G)) (rest := rest.map (o_rl G)) ⟨o_blind _ _ _, fun U hU hw => ⟨rfl, by rw [hU]; exact hW.forget, hSf.warm hw⟩⟩ rfl (by rw [List.length_map, List.length_reverse, List.length_take]; omega) hl.1 hstk (lv_room (by rw [o_catsum]; exact hcat)) hd ⟨by omega, by omega⟩
    refine o_cont hr hW fun w h' H' locs' hP hW' => ?_
    rw [o_toList]
    exact kn _ _ _ _ _ (hk3 w h' hP) p e R s0 m args below meth cd Q H' locs' (cells + mc) (slots + ms) ls hE hW' (by omega) (by omega) hl
  · exact hk2.elim
theorem so_callV {M' : oM} {ci n index N : Nat} {T : u_T} {ty : Nat → FieldType} (hC : o_Cl ci (mY M').cls T N ty) (hM : o_Mf M' n) (hi1 : Cond.instanceMethod (mY M') ∈ o_TT) (hse : Cond.selects (mY M').cls (mY M') (mY M') ∈ o_TT) (hl1 : Cond.methodLink (mY M).cls index (mY M') ∈ o_TT) (hD : mD M' < mD M) (hQ : 8 + (mL M' + 11) + mQ M' ≤ mQ M) (hd : decode (mC M) pc = .ok (.invokevirtual index, 3)) (kn : oS G M Post (pc + 3) K) : oS G M Post pc (o_callV G ci M' n K) := by
  intro c s L st h hk2
  unfold o_callV at hk2
  split at hk2
  · split at hk2
    · rename_i v rest hst _ cj fs hg
      obtain ⟨rfl, hcat, mc, ms, P, hmc, hms, hMt, hk3⟩ := hk2
      obtain ⟨a, rfl, ha⟩ := o_get_spec hg
      intro p e R s0 m args below meth cd Q H locs cells slots ls hE hW hc hs hl
      have hts := hE.2.2.2.2.2.1
      have hSf := hE.2.2.2.2.2.2.2.2.1
      have hfr := hE.2.2.2.2.2.2.1
      have hlo := hE.2.2.2.2.2.2.2.1
      have hR : (mRm M' mc ms).frames + 1 ≤ R.frames ∧ 8 + (mL M' + 11) + (mRm M' mc ms).locals ≤ R.locals := ⟨by show mD M' + 1 ≤ _; omega, by show 8 + (mL M' + 11) + mQ M' ≤ _; omega⟩
      have hlen : n < st.length := by
        rcases Nat.lt_or_ge n st.length with q | q
        · exact q
        · rw [List.drop_eq_nil_of_le q] at hst; cases hst
      have hstk : (F0 m pc ls (st.map (o_rl G))).stack = (((st.take n).reverse).map (o_rl G)).reverse ++ Value.ref ((gH G).size + a) :: rest.map (o_rl G) := by
        show st.map (o_rl G) = _
        rw [List.map_reverse, List.reverse_reverse]
        conv => lhs; rw [← List.take_append_drop n st, hst, List.map_append]
        rfl
      have hr := va_runV (H := H) (locs := locs) (cells := cells) (slots := slots) (e := e) (below := below) (meth := meth) (g := F0 m pc ls (st.map (o_rl G))) (n := n) (C := (mY M').cls) ⟨hE.1, hE.2.1, hE.2.2.1, hE.2.2.2.1, hts⟩ hMt ⟨callB_of n hts (o_good hM.1) rfl rfl rfl (hts _ hM.2.1) (hts _ hl1) hM.2.2 hR, hts _ hi1, hts _ hse⟩ (b := (gH G).size + a) (As := ((st.take n).reverse).map (o_rl G)) (rest := rest.map (o_rl G)) ⟨o_blind _ _ _, va_recv hSf.1 hW.1 hC.1 (o_ws_at ha), fun U hU hw => ⟨rfl, by rw [hU]; exact hW.forget, hSf.warm hw⟩⟩ rfl (by rw [List.length_map, List.length_reverse, List.length_take]; omega) hl.1 hstk (lv_room (by rw [o_catsum]; exact hcat)) hd ⟨by omega, by omega⟩
      refine o_cont hr hW fun w h' H' locs' hP hW' => ?_
      rw [o_toList]
      exact kn _ _ _ _ _ (hk3 w h' hP) p e R s0 m args below meth cd Q H' locs' (cells + mc) (slots + ms) ls hE hW' (by omega) (by omega) hl
    · exact hk2.elim
  · exact hk2.elim
theorem so_callSN {M' : oM} {n index : Nat} (hM : o_Mf M' n) (hst1 : Cond.static (mY M') ∈ o_TT) {host : String} (hl1 : Cond.methodLinkNest (mY M).cls index (mY M') host ∈ o_NW) (hD : mD M' < mD M) (hQ : 8 + (mL M' + 11) + mQ M' ≤ mQ M) (hd : decode (mC M) pc = .ok (.invokestatic index, 3)) (kn : oS G M Post (pc + 3) K) : oS G M Post pc (o_callS G M' n K) := by
  intro c s L st h hk2
  obtain ⟨hn, hcat, mc, ms, P, hmc, hms, hMt, hk3⟩ := hk2
  intro p e R s0 m args below meth cd Q H locs cells slots ls hE hW hc hs hl
  have hts := hE.2.2.2.2.2.1
  have hSf := hE.2.2.2.2.2.2.2.2.1
  have hfr := hE.2.2.2.2.2.2.1
  have hlo := hE.2.2.2.2.2.2.2.1
  have hR : (mRm M' mc ms).frames + 1 ≤ R.frames ∧ 8 + (mL M' + 11) + (mRm M' mc ms).locals ≤ R.locals := ⟨by show mD M' + 1 ≤ _; omega, by show 8 + (mL M' + 11) + mQ M' ≤ _; omega⟩
  have hstk : (F0 m pc ls (st.map (o_rl G))).stack = (((st.take n).reverse).map (o_rl G)).reverse ++ (st.drop n).map (o_rl G) := by
    show st.map (o_rl G) = _
    rw [List.map_reverse, List.reverse_reverse, ← List.map_append, List.take_append_drop]
  have hr := va_runSN (H := H) (locs := locs) (cells := cells) (slots := slots) (e := e) (below := below) (meth := meth) (g := F0 m pc ls (st.map (o_rl G))) (n := n) ⟨hE.1, hE.2.1, hE.2.2.1, hE.2.2.2.1, hts⟩ hMt ⟨va_cnB n hts (o_good hM.1) rfl rfl rfl (hE.2.2.2.2.2.2.2.2.1.2.2.2.1 _ hl1) (hts _ hM.2.1) hM.2.2 hR, hts _ hst1, trivial⟩ (As := ((st.take n).reverse).map (o_rl G)) (rest := (st.drop n).map (o_rl G)) ⟨o_blind _ _ _, fun U hU hw => ⟨rfl, by rw [hU]; exact hW.forget, hSf.warm hw⟩⟩ rfl (by rw [List.length_map, List.length_reverse, List.length_take]; omega) hl.1 hstk (lv_room (by rw [o_catsum]; exact hcat)) hd ⟨by omega, by omega⟩
  refine o_cont hr hW fun w h' H' locs' hP hW' => ?_
  rw [o_toList]
  exact kn _ _ _ _ _ (hk3 w h' hP) p e R s0 m args below meth cd Q H' locs' (cells + mc) (slots + ms) ls hE hW' (by omega) (by omega) hl
theorem so_callIN {M' : oM} {n index : Nat} (hM : o_Mf M' n) (hi1 : Cond.instanceMethod (mY M') ∈ o_TT) (hnm : (mY M').name = "<init>") (hrt : mR M' = none) {host : String} (hl1 : Cond.methodLinkNest (mY M).cls index (mY M') host ∈ o_NW) (hD : mD M' < mD M) (hQ : 8 + (mL M' + 11) + mQ M' ≤ mQ M) (hd : decode (mC M) pc = .ok (.invokespecial index, 3)) (kn : oS G M Post (pc + 3) K) : oS G M Post pc (o_callI G M' n K) := by
  obtain ⟨y', cc', mL', ret', d', q'⟩ := M'
  have hrt : ret' = none := hrt
  subst hrt
  intro c s L st h hk2
  unfold o_callI at hk2
  split at hk2
  · rename_i a rest hst
    obtain ⟨hcat, mc, ms, P, hmc, hms, hMt, hk3⟩ := hk2
    intro p e R s0 m args below meth cd Q H locs cells slots ls hE hW hc hs hl
    have hts := hE.2.2.2.2.2.1
    have hSf := hE.2.2.2.2.2.2.2.2.1
    have hfr := hE.2.2.2.2.2.2.1
    have hlo := hE.2.2.2.2.2.2.2.1
    have hQ : 8 + (mL' + 11) + q' ≤ mQ M := hQ
    have hD : d' < mD M := hD
    have hR : d' + 1 ≤ R.frames ∧ 8 + (mL' + 11) + q' ≤ R.locals := ⟨by omega, by omega⟩
    have hlen : n < st.length := by
      rcases Nat.lt_or_ge n st.length with q | q
      · exact q
      · rw [List.drop_eq_nil_of_le q] at hst; cases hst
    have hstk : (F0 m pc ls (st.map (o_rl G))).stack = (((st.take n).reverse).map (o_rl G)).reverse ++ Value.ref (o_ad G a) :: rest.map (o_rl G) := by
      show st.map (o_rl G) = _
      rw [List.map_reverse, List.reverse_reverse]
      conv => lhs; rw [← List.take_append_drop n st, hst, List.map_append]
      rfl
    have hr := va_runIN (H := H) (locs := locs) (cells := cells) (slots := slots) (e := e) (below := below) (meth := meth) (g := F0 m pc ls (st.map (o_rl G))) (n := n) ⟨hE.1, hE.2.1, hE.2.2.1, hE.2.2.2.1, hts⟩ hMt ⟨va_cnB (ret := none) n hts (o_good hM.1) rfl rfl rfl (hE.2.2.2.2.2.2.2.2.1.2.2.2.1 _ hl1) (hts _ hM.2.1) hM.2.2 hR, hnm, hts _ hi1⟩ (b := o_ad G a) (As := ((st.take n).reverse).map (o_rl G)) (rest := rest.map (o_rl G)) ⟨o_blind _ _ _, fun U hU hw => ⟨rfl, by rw [hU]; exact hW.forget, hSf.warm hw⟩⟩ rfl (by rw [List.length_map, List.length_reverse, List.length_take]; omega) hl.1 hstk (lv_room (by rw [o_catsum]; exact hcat)) hd ⟨by omega, by omega⟩
    refine o_cont hr hW fun w h' H' locs' hP hW' => ?_
    rw [o_toList]
    exact kn _ _ _ _ _ (hk3 w h' hP) p e R s0 m args below meth cd Q H' locs' (cells + mc) (slots + ms) ls hE hW' (by omega) (by omega) hl
  · exact hk2.elim
theorem so_callVN {M' : oM} {ci n index N : Nat} {T : u_T} {ty : Nat → FieldType} (hC : o_Cl ci (mY M').cls T N ty) (hM : o_Mf M' n) (hi1 : Cond.instanceMethod (mY M') ∈ o_TT) (hse : Cond.selects (mY M').cls (mY M') (mY M') ∈ o_TT) {host : String} (hl1 : Cond.methodLinkNest (mY M).cls index (mY M') host ∈ o_NW) (hD : mD M' < mD M) (hQ : 8 + (mL M' + 11) + mQ M' ≤ mQ M) (hd : decode (mC M) pc = .ok (.invokevirtual index, 3)) (kn : oS G M Post (pc + 3) K) : oS G M Post pc (o_callV G ci M' n K) := by
  intro c s L st h hk2
  unfold o_callV at hk2
  split at hk2
  · split at hk2
    · rename_i v rest hst _ cj fs hg
      obtain ⟨rfl, hcat, mc, ms, P, hmc, hms, hMt, hk3⟩ := hk2
      obtain ⟨a, rfl, ha⟩ := o_get_spec hg
      intro p e R s0 m args below meth cd Q H locs cells slots ls hE hW hc hs hl
      have hts := hE.2.2.2.2.2.1
      have hSf := hE.2.2.2.2.2.2.2.2.1
      have hfr := hE.2.2.2.2.2.2.1
      have hlo := hE.2.2.2.2.2.2.2.1
      have hR : (mRm M' mc ms).frames + 1 ≤ R.frames ∧ 8 + (mL M' + 11) + (mRm M' mc ms).locals ≤ R.locals := ⟨by show mD M' + 1 ≤ _; omega, by show 8 + (mL M' + 11) + mQ M' ≤ _; omega⟩
      have hlen : n < st.length := by
        rcases Nat.lt_or_ge n st.length with q | q
        · exact q
        · rw [List.drop_eq_nil_of_le q] at hst; cases hst
      have hstk : (F0 m pc ls (st.map (o_rl G))).stack = (((st.take n).reverse).map (o_rl G)).reverse ++ Value.ref ((gH G).size + a) :: rest.map (o_rl G) := by
        show st.map (o_rl G) = _
        rw [List.map_reverse, List.reverse_reverse]
        conv => lhs; rw [← List.take_append_drop n st, hst, List.map_append]
        rfl
      have hr := va_runVN (H := H) (locs := locs) (cells := cells) (slots := slots) (e := e) (below := below) (meth := meth) (g := F0 m pc ls (st.map (o_rl G))) (n := n) (C := (mY M').cls) ⟨hE.1, hE.2.1, hE.2.2.1, hE.2.2.2.1, hts⟩ hMt ⟨va_cnB n hts (o_good hM.1) rfl rfl rfl (hE.2.2.2.2.2.2.2.2.1.2.2.2.1 _ hl1) (hts _ hM.2.1) hM.2.2 hR, hts _ hi1, hts _ hse⟩ (b := (gH G).size + a) (As := ((st.take n).reverse).map (o_rl G)) (rest := rest.map (o_rl G)) ⟨o_blind _ _ _, va_recv hSf.1 hW.1 hC.1 (o_ws_at ha), fun U hU hw => ⟨rfl, by rw [hU]; exact hW.forget, hSf.warm hw⟩⟩ rfl (by rw [List.length_map, List.length_reverse, List.length_take]; omega) hl.1 hstk (lv_room (by rw [o_catsum]; exact hcat)) hd ⟨by omega, by omega⟩
      refine o_cont hr hW fun w h' H' locs' hP hW' => ?_
      rw [o_toList]
      exact kn _ _ _ _ _ (hk3 w h' hP) p e R s0 m args below meth cd Q H' locs' (cells + mc) (slots + ms) ls hE hW' (by omega) (by omega) hl
    · exact hk2.elim
  · exact hk2.elim
def o_objInit (K : oK) : oK := fun c s L st h => match st with
  | .ref _ :: r => (r.map Value.category).sum ≤ 8 ∧ K c s L r h
  | _ => False
theorem so_objInit {index : Nat} (h1 : Cond.methodLink (mY M).cls index Lib.objectInit ∈ o_TT) (h2 : Cond.instanceMethod Lib.objectInit ∈ o_TT) (h3 : Cond.code Lib.objectInit ⟨#[0xb1]⟩ 1 none ∈ o_TT) (hD : 1 ≤ mD M) (hQ : 20 ≤ mQ M) (hd : decode (mC M) pc = .ok (.invokespecial index, 3)) (kn : oS G M Post (pc + 3) K) : oS G M Post pc (o_objInit K) := by
  intro c s L st h hk2
  unfold o_objInit at hk2
  split at hk2
  · rename_i a r
    intro p e R s0 m args below meth cd Q H locs cells slots ls hE hW hc hs hl
    have hts := hE.2.2.2.2.2.1
    have hfr := hE.2.2.2.2.2.2.1
    have hlo := hE.2.2.2.2.2.2.2.1
    have hcat := o_catsum G r
    have h8 := hk2.1
    exact W.objInit hE.1 hE.2.1 hE.2.2.2.1 (hts _ h1) (hts _ h2) (hts _ h3) rfl (by rw [hE.2.2.1]; exact hl.1) rfl hd (by omega) (by show 2 * 0 + _ + 12 ≤ _; omega) (kn _ _ _ _ _ hk2.2 p e R s0 m args below meth cd Q H locs cells slots ls hE hW hc hs hl)
  · exact hk2.elim
theorem o_rL_args (G : oG) (as : List Value) : ∀ i : Nat, lv_args i (as.map (o_rl G)) = o_rL G (lv_args i as) := by
  induction as with
  | nil => intro i; rfl
  | cons v r ih =>
    intro i
    simp only [List.map_cons, lv_args, o_cat, ih, o_rL]
theorem o_sl_len (G : oG) (as : List Value) : (lg_sl (as.map (o_rl G))).length = (lg_sl as).length := by
  induction as with
  | nil => rfl
  | cons v r ih =>
    have e : lg_sl (v :: r) = (if v.category = 2 then [.val v, .second] else [.val v]) ++ lg_sl r := by simp [lg_sl]
    have e2 : lg_sl ((v :: r).map (o_rl G)) = (if (o_rl G v).category = 2 then [.val (o_rl G v), .second] else [.val (o_rl G v)]) ++ lg_sl (r.map (o_rl G)) := by simp [lg_sl]
    rw [e, e2, List.length_append, List.length_append, ih, o_cat]
    by_cases h : v.category = 2 <;> simp [h]
/-- the contract out of the walk of the body -/
theorem Mt.of {as : List Value} {h : oH} {mc ms : Nat} (hy : plainName (mY M).cls = true) (hlen : (lg_sl as).length ≤ mL M) (k : Wp G M Post 0 mc ms (lv_args 0 as) [] h) : Mt G M as h mc ms Post := by
  refine Met.ofW (cc := mC M) (maxL := mL M) (ret := mR M) hy rfl ?_
  intro p e s m args below meth cd s₁ B hml hv
  obtain ⟨rfl, hW, hSf⟩ := hv
  have hl := lv_entry (as.map (o_rl G)) (n := mL M) (by rw [o_sl_len]; exact hlen)
  rw [lg_entry_eq]
  generalize (lg_sl (as.map (o_rl G)) ++ List.replicate (mL M - (lg_sl (as.map (o_rl G))).length) Slot.unset).toArray = ls at hl ⊢
  refine k p e _ s m _ below meth cd _ s.heap [] 0 0 ls ⟨B.exec, B.bytes, hml, findClass_of_methodNamed B.named, (name_of_methodNamed B.named B.method).1, fun w hw => atoms_spec (ws := mW M :: o_TT) B.pre w (List.mem_cons_of_mem _ hw), Nat.le_refl _, Nat.le_refl _, hSf, ?_⟩ hW (by show 0 + mc ≤ mc; omega) (by show 0 + ms ≤ ms; omega) (by rw [← o_rL_args]; exact hl)
  intro v h' H locs ls' pc cells slots hP hW' hc hs hr
  refine W.widen hc hs ?_
  unfold o_rets at hr
  split at hr
  · exact W.vret B.exec B.bytes (B.returns.trans hr.1) (fun t ht hw => ⟨none, h', hP, rfl, by rw [ht]; exact hW'.forget⟩) hW'.2.2.1.2.2 hr.2
  · rename_i x
    obtain ⟨⟨ty, h1, h2⟩, h3⟩ := hr
    exact W.zret B.exec B.bytes (B.returns.trans h1) h2 (fun t ht hw => ⟨some (.int x), h', hP, rfl, by rw [ht]; exact hW'.forget⟩) hW'.2.2.1.2.2 h3
  · rename_i x
    exact W.lret B.exec B.bytes (B.returns.trans hr.1) (fun t ht hw => ⟨some (.long x), h', hP, rfl, by rw [ht]; exact hW'.forget⟩) hW'.2.2.1.2.2 hr.2
  · exact hr.elim
end OC
end
