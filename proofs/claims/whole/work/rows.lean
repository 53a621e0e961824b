section
-- ===== PART A: goes FIRST, ahead of the names: the tables' words, and 'selects' of the private methods out of them =====
/-- a private method of a class that the tables say can be made, by its rows of tables_1 -/
def lw_okq (q : MethodName × Nat) : Prop := (q.1.cls ≠ "java/lang/invoke/MethodHandle" ∧ q.1.cls ≠ "java/lang/invoke/VarHandle") ∧ Cond.instantiable q.1.cls q.2 ∈ tables_1 ∧ Cond.privateMethod q.1 ∈ tables_1 ∧ Cond.instanceMethod q.1 ∈ tables_1
theorem lw_p0 : lw_okq (⟨"TrapGate", "serve", "(II)I"⟩, 9) := ⟨⟨by decide +kernel, by decide +kernel⟩, List.mem_of_getElem? (i := 12) (by decide +kernel), List.mem_of_getElem? (i := 204) (by decide +kernel), List.mem_of_getElem? (i := 205) (by decide +kernel)⟩
theorem lw_p1 : lw_okq (⟨"TrapGate", "open", "(III)I"⟩, 9) := ⟨⟨by decide +kernel, by decide +kernel⟩, List.mem_of_getElem? (i := 12) (by decide +kernel), List.mem_of_getElem? (i := 208) (by decide +kernel), List.mem_of_getElem? (i := 209) (by decide +kernel)⟩
theorem lw_p2 : lw_okq (⟨"TrapGate", "leastFreeFile", "()I"⟩, 9) := ⟨⟨by decide +kernel, by decide +kernel⟩, List.mem_of_getElem? (i := 12) (by decide +kernel), List.mem_of_getElem? (i := 242) (by decide +kernel), List.mem_of_getElem? (i := 243) (by decide +kernel)⟩
theorem lw_p3 : lw_okq (⟨"TrapGate", "isFileThere", "(I)Z"⟩, 9) := ⟨⟨by decide +kernel, by decide +kernel⟩, List.mem_of_getElem? (i := 12) (by decide +kernel), List.mem_of_getElem? (i := 246) (by decide +kernel), List.mem_of_getElem? (i := 247) (by decide +kernel)⟩
theorem lw_p4 : lw_okq (⟨"TrapGate", "close", "(II)I"⟩, 9) := ⟨⟨by decide +kernel, by decide +kernel⟩, List.mem_of_getElem? (i := 12) (by decide +kernel), List.mem_of_getElem? (i := 274) (by decide +kernel), List.mem_of_getElem? (i := 275) (by decide +kernel)⟩
theorem lw_p5 : lw_okq (⟨"TrapGate", "transfer", "(IIIII)I"⟩, 9) := ⟨⟨by decide +kernel, by decide +kernel⟩, List.mem_of_getElem? (i := 12) (by decide +kernel), List.mem_of_getElem? (i := 287) (by decide +kernel), List.mem_of_getElem? (i := 288) (by decide +kernel)⟩
theorem lw_p6 : lw_okq (⟨"TrapGate", "readOpen", "(II)I"⟩, 9) := ⟨⟨by decide +kernel, by decide +kernel⟩, List.mem_of_getElem? (i := 12) (by decide +kernel), List.mem_of_getElem? (i := 311) (by decide +kernel), List.mem_of_getElem? (i := 312) (by decide +kernel)⟩
theorem lw_p7 : lw_okq (⟨"TrapGate", "takeFromPipe", "(II)I"⟩, 9) := ⟨⟨by decide +kernel, by decide +kernel⟩, List.mem_of_getElem? (i := 12) (by decide +kernel), List.mem_of_getElem? (i := 327) (by decide +kernel), List.mem_of_getElem? (i := 328) (by decide +kernel)⟩
theorem lw_p8 : lw_okq (⟨"TrapGate", "takeFromFile", "(II)I"⟩, 9) := ⟨⟨by decide +kernel, by decide +kernel⟩, List.mem_of_getElem? (i := 12) (by decide +kernel), List.mem_of_getElem? (i := 338) (by decide +kernel), List.mem_of_getElem? (i := 339) (by decide +kernel)⟩
theorem lw_p9 : lw_okq (⟨"TrapGate", "scatter", "(II)V"⟩, 9) := ⟨⟨by decide +kernel, by decide +kernel⟩, List.mem_of_getElem? (i := 12) (by decide +kernel), List.mem_of_getElem? (i := 349) (by decide +kernel), List.mem_of_getElem? (i := 350) (by decide +kernel)⟩
theorem lw_p10 : lw_okq (⟨"TrapGate", "writeOpen", "(II)I"⟩, 9) := ⟨⟨by decide +kernel, by decide +kernel⟩, List.mem_of_getElem? (i := 12) (by decide +kernel), List.mem_of_getElem? (i := 361) (by decide +kernel), List.mem_of_getElem? (i := 362) (by decide +kernel)⟩
theorem lw_p11 : lw_okq (⟨"TrapGate", "gather", "(II)V"⟩, 9) := ⟨⟨by decide +kernel, by decide +kernel⟩, List.mem_of_getElem? (i := 12) (by decide +kernel), List.mem_of_getElem? (i := 365) (by decide +kernel), List.mem_of_getElem? (i := 366) (by decide +kernel)⟩
theorem lw_p12 : lw_okq (⟨"TrapGate", "putInPipe", "(II)I"⟩, 9) := ⟨⟨by decide +kernel, by decide +kernel⟩, List.mem_of_getElem? (i := 12) (by decide +kernel), List.mem_of_getElem? (i := 370) (by decide +kernel), List.mem_of_getElem? (i := 371) (by decide +kernel)⟩
theorem lw_p13 : lw_okq (⟨"TrapGate", "putInFile", "(II)I"⟩, 9) := ⟨⟨by decide +kernel, by decide +kernel⟩, List.mem_of_getElem? (i := 12) (by decide +kernel), List.mem_of_getElem? (i := 378) (by decide +kernel), List.mem_of_getElem? (i := 379) (by decide +kernel)⟩
theorem lw_p14 : lw_okq (⟨"TrapGate", "seek", "(III)I"⟩, 9) := ⟨⟨by decide +kernel, by decide +kernel⟩, List.mem_of_getElem? (i := 12) (by decide +kernel), List.mem_of_getElem? (i := 387) (by decide +kernel), List.mem_of_getElem? (i := 388) (by decide +kernel)⟩
theorem lw_p15 : lw_okq (⟨"TrapGate", "duplicate", "(II)I"⟩, 9) := ⟨⟨by decide +kernel, by decide +kernel⟩, List.mem_of_getElem? (i := 12) (by decide +kernel), List.mem_of_getElem? (i := 391) (by decide +kernel), List.mem_of_getElem? (i := 392) (by decide +kernel)⟩
def lw_privs_1 : List (MethodName × Nat) := [(⟨"TrapGate", "serve", "(II)I"⟩, 9), (⟨"TrapGate", "open", "(III)I"⟩, 9), (⟨"TrapGate", "leastFreeFile", "()I"⟩, 9), (⟨"TrapGate", "isFileThere", "(I)Z"⟩, 9), (⟨"TrapGate", "close", "(II)I"⟩, 9), (⟨"TrapGate", "transfer", "(IIIII)I"⟩, 9), (⟨"TrapGate", "readOpen", "(II)I"⟩, 9), (⟨"TrapGate", "takeFromPipe", "(II)I"⟩, 9), (⟨"TrapGate", "takeFromFile", "(II)I"⟩, 9), (⟨"TrapGate", "scatter", "(II)V"⟩, 9), (⟨"TrapGate", "writeOpen", "(II)I"⟩, 9), (⟨"TrapGate", "gather", "(II)V"⟩, 9), (⟨"TrapGate", "putInPipe", "(II)I"⟩, 9), (⟨"TrapGate", "putInFile", "(II)I"⟩, 9), (⟨"TrapGate", "seek", "(III)I"⟩, 9), (⟨"TrapGate", "duplicate", "(II)I"⟩, 9)]
theorem lw_r1 : ∀ q ∈ lw_privs_1, lw_okq q := List.forall_mem_cons.mpr ⟨lw_p0, List.forall_mem_cons.mpr ⟨lw_p1, List.forall_mem_cons.mpr ⟨lw_p2, List.forall_mem_cons.mpr ⟨lw_p3, List.forall_mem_cons.mpr ⟨lw_p4, List.forall_mem_cons.mpr ⟨lw_p5, List.forall_mem_cons.mpr ⟨lw_p6, List.forall_mem_cons.mpr ⟨lw_p7, List.forall_mem_cons.mpr ⟨lw_p8, List.forall_mem_cons.mpr ⟨lw_p9, List.forall_mem_cons.mpr ⟨lw_p10, List.forall_mem_cons.mpr ⟨lw_p11, List.forall_mem_cons.mpr ⟨lw_p12, List.forall_mem_cons.mpr ⟨lw_p13, List.forall_mem_cons.mpr ⟨lw_p14, List.forall_mem_cons.mpr ⟨lw_p15, fun _ h => absurd h List.not_mem_nil⟩⟩⟩⟩⟩⟩⟩⟩⟩⟩⟩⟩⟩⟩⟩⟩
theorem lw_p16 : lw_okq (⟨"TrapGate", "unlink", "(II)I"⟩, 9) := ⟨⟨by decide +kernel, by decide +kernel⟩, List.mem_of_getElem? (i := 12) (by decide +kernel), List.mem_of_getElem? (i := 395) (by decide +kernel), List.mem_of_getElem? (i := 396) (by decide +kernel)⟩
theorem lw_p17 : lw_okq (⟨"TrapGate", "link", "(III)I"⟩, 9) := ⟨⟨by decide +kernel, by decide +kernel⟩, List.mem_of_getElem? (i := 12) (by decide +kernel), List.mem_of_getElem? (i := 403) (by decide +kernel), List.mem_of_getElem? (i := 404) (by decide +kernel)⟩
theorem lw_p18 : lw_okq (⟨"TrapGate", "stat", "(III)I"⟩, 9) := ⟨⟨by decide +kernel, by decide +kernel⟩, List.mem_of_getElem? (i := 12) (by decide +kernel), List.mem_of_getElem? (i := 407) (by decide +kernel), List.mem_of_getElem? (i := 408) (by decide +kernel)⟩
theorem lw_p19 : lw_okq (⟨"TrapGate", "makePipe", "(II)I"⟩, 9) := ⟨⟨by decide +kernel, by decide +kernel⟩, List.mem_of_getElem? (i := 12) (by decide +kernel), List.mem_of_getElem? (i := 411) (by decide +kernel), List.mem_of_getElem? (i := 412) (by decide +kernel)⟩
theorem lw_p20 : lw_okq (⟨"TrapGate", "leastFreePipe", "()I"⟩, 9) := ⟨⟨by decide +kernel, by decide +kernel⟩, List.mem_of_getElem? (i := 12) (by decide +kernel), List.mem_of_getElem? (i := 415) (by decide +kernel), List.mem_of_getElem? (i := 416) (by decide +kernel)⟩
theorem lw_p21 : lw_okq (⟨"TrapGate", "isPipeThere", "(I)Z"⟩, 9) := ⟨⟨by decide +kernel, by decide +kernel⟩, List.mem_of_getElem? (i := 12) (by decide +kernel), List.mem_of_getElem? (i := 419) (by decide +kernel), List.mem_of_getElem? (i := 420) (by decide +kernel)⟩
theorem lw_p22 : lw_okq (⟨"TrapGate", "list", "(III)I"⟩, 9) := ⟨⟨by decide +kernel, by decide +kernel⟩, List.mem_of_getElem? (i := 12) (by decide +kernel), List.mem_of_getElem? (i := 423) (by decide +kernel), List.mem_of_getElem? (i := 424) (by decide +kernel)⟩
theorem lw_p23 : lw_okq (⟨"TrapGate", "copy", "(IIII)I"⟩, 9) := ⟨⟨by decide +kernel, by decide +kernel⟩, List.mem_of_getElem? (i := 12) (by decide +kernel), List.mem_of_getElem? (i := 434) (by decide +kernel), List.mem_of_getElem? (i := 435) (by decide +kernel)⟩
theorem lw_p24 : lw_okq (⟨"TrapGate", "protect", "(III)I"⟩, 9) := ⟨⟨by decide +kernel, by decide +kernel⟩, List.mem_of_getElem? (i := 12) (by decide +kernel), List.mem_of_getElem? (i := 438) (by decide +kernel), List.mem_of_getElem? (i := 439) (by decide +kernel)⟩
theorem lw_p25 : lw_okq (⟨"TrapGate", "transferRanges", "(IIIII)I"⟩, 9) := ⟨⟨by decide +kernel, by decide +kernel⟩, List.mem_of_getElem? (i := 12) (by decide +kernel), List.mem_of_getElem? (i := 442) (by decide +kernel), List.mem_of_getElem? (i := 443) (by decide +kernel)⟩
theorem lw_p26 : lw_okq (⟨"TrapGate", "takeRanges", "(IIII)Z"⟩, 9) := ⟨⟨by decide +kernel, by decide +kernel⟩, List.mem_of_getElem? (i := 12) (by decide +kernel), List.mem_of_getElem? (i := 446) (by decide +kernel), List.mem_of_getElem? (i := 447) (by decide +kernel)⟩
theorem lw_p27 : lw_okq (⟨"TrapGate", "rename", "(III)I"⟩, 9) := ⟨⟨by decide +kernel, by decide +kernel⟩, List.mem_of_getElem? (i := 12) (by decide +kernel), List.mem_of_getElem? (i := 452) (by decide +kernel), List.mem_of_getElem? (i := 453) (by decide +kernel)⟩
theorem lw_p28 : lw_okq (⟨"TrapGate", "filesThere", "()I"⟩, 9) := ⟨⟨by decide +kernel, by decide +kernel⟩, List.mem_of_getElem? (i := 12) (by decide +kernel), List.mem_of_getElem? (i := 469) (by decide +kernel), List.mem_of_getElem? (i := 470) (by decide +kernel)⟩
theorem lw_p29 : lw_okq (⟨"TrapGate", "pipesThere", "()I"⟩, 9) := ⟨⟨by decide +kernel, by decide +kernel⟩, List.mem_of_getElem? (i := 12) (by decide +kernel), List.mem_of_getElem? (i := 477) (by decide +kernel), List.mem_of_getElem? (i := 478) (by decide +kernel)⟩
theorem lw_p30 : lw_okq (⟨"TrapGateModel", "first", "(I)I"⟩, 28) := ⟨⟨by decide +kernel, by decide +kernel⟩, List.mem_of_getElem? (i := 489) (by decide +kernel), List.mem_of_getElem? (i := 626) (by decide +kernel), List.mem_of_getElem? (i := 627) (by decide +kernel)⟩
theorem lw_p31 : lw_okq (⟨"TrapGateModel", "open", "()I"⟩, 28) := ⟨⟨by decide +kernel, by decide +kernel⟩, List.mem_of_getElem? (i := 489) (by decide +kernel), List.mem_of_getElem? (i := 630) (by decide +kernel), List.mem_of_getElem? (i := 631) (by decide +kernel)⟩
def lw_privs_2 : List (MethodName × Nat) := [(⟨"TrapGate", "unlink", "(II)I"⟩, 9), (⟨"TrapGate", "link", "(III)I"⟩, 9), (⟨"TrapGate", "stat", "(III)I"⟩, 9), (⟨"TrapGate", "makePipe", "(II)I"⟩, 9), (⟨"TrapGate", "leastFreePipe", "()I"⟩, 9), (⟨"TrapGate", "isPipeThere", "(I)Z"⟩, 9), (⟨"TrapGate", "list", "(III)I"⟩, 9), (⟨"TrapGate", "copy", "(IIII)I"⟩, 9), (⟨"TrapGate", "protect", "(III)I"⟩, 9), (⟨"TrapGate", "transferRanges", "(IIIII)I"⟩, 9), (⟨"TrapGate", "takeRanges", "(IIII)Z"⟩, 9), (⟨"TrapGate", "rename", "(III)I"⟩, 9), (⟨"TrapGate", "filesThere", "()I"⟩, 9), (⟨"TrapGate", "pipesThere", "()I"⟩, 9), (⟨"TrapGateModel", "first", "(I)I"⟩, 28), (⟨"TrapGateModel", "open", "()I"⟩, 28)]
theorem lw_r2 : ∀ q ∈ lw_privs_2, lw_okq q := List.forall_mem_cons.mpr ⟨lw_p16, List.forall_mem_cons.mpr ⟨lw_p17, List.forall_mem_cons.mpr ⟨lw_p18, List.forall_mem_cons.mpr ⟨lw_p19, List.forall_mem_cons.mpr ⟨lw_p20, List.forall_mem_cons.mpr ⟨lw_p21, List.forall_mem_cons.mpr ⟨lw_p22, List.forall_mem_cons.mpr ⟨lw_p23, List.forall_mem_cons.mpr ⟨lw_p24, List.forall_mem_cons.mpr ⟨lw_p25, List.forall_mem_cons.mpr ⟨lw_p26, List.forall_mem_cons.mpr ⟨lw_p27, List.forall_mem_cons.mpr ⟨lw_p28, List.forall_mem_cons.mpr ⟨lw_p29, List.forall_mem_cons.mpr ⟨lw_p30, List.forall_mem_cons.mpr ⟨lw_p31, fun _ h => absurd h List.not_mem_nil⟩⟩⟩⟩⟩⟩⟩⟩⟩⟩⟩⟩⟩⟩⟩⟩
theorem lw_p32 : lw_okq (⟨"TrapGateModel", "string", "(II)Z"⟩, 28) := ⟨⟨by decide +kernel, by decide +kernel⟩, List.mem_of_getElem? (i := 489) (by decide +kernel), List.mem_of_getElem? (i := 634) (by decide +kernel), List.mem_of_getElem? (i := 635) (by decide +kernel)⟩
theorem lw_p33 : lw_okq (⟨"TrapGateModel", "place", "(II)I"⟩, 28) := ⟨⟨by decide +kernel, by decide +kernel⟩, List.mem_of_getElem? (i := 489) (by decide +kernel), List.mem_of_getElem? (i := 638) (by decide +kernel), List.mem_of_getElem? (i := 639) (by decide +kernel)⟩
theorem lw_p34 : lw_okq (⟨"TrapGateModel", "name", "(I)I"⟩, 28) := ⟨⟨by decide +kernel, by decide +kernel⟩, List.mem_of_getElem? (i := 489) (by decide +kernel), List.mem_of_getElem? (i := 642) (by decide +kernel), List.mem_of_getElem? (i := 643) (by decide +kernel)⟩
theorem lw_p35 : lw_okq (⟨"TrapGateModel", "isName", "(II)Z"⟩, 28) := ⟨⟨by decide +kernel, by decide +kernel⟩, List.mem_of_getElem? (i := 489) (by decide +kernel), List.mem_of_getElem? (i := 646) (by decide +kernel), List.mem_of_getElem? (i := 647) (by decide +kernel)⟩
theorem lw_p36 : lw_okq (⟨"TrapGateModel", "freeDescriptor", "()I"⟩, 28) := ⟨⟨by decide +kernel, by decide +kernel⟩, List.mem_of_getElem? (i := 489) (by decide +kernel), List.mem_of_getElem? (i := 650) (by decide +kernel), List.mem_of_getElem? (i := 651) (by decide +kernel)⟩
theorem lw_p37 : lw_okq (⟨"TrapGateModel", "freeOpen", "()I"⟩, 28) := ⟨⟨by decide +kernel, by decide +kernel⟩, List.mem_of_getElem? (i := 489) (by decide +kernel), List.mem_of_getElem? (i := 654) (by decide +kernel), List.mem_of_getElem? (i := 655) (by decide +kernel)⟩
theorem lw_p38 : lw_okq (⟨"TrapGateModel", "freeFile", "()I"⟩, 28) := ⟨⟨by decide +kernel, by decide +kernel⟩, List.mem_of_getElem? (i := 489) (by decide +kernel), List.mem_of_getElem? (i := 658) (by decide +kernel), List.mem_of_getElem? (i := 659) (by decide +kernel)⟩
theorem lw_p39 : lw_okq (⟨"TrapGateModel", "freeName", "()I"⟩, 28) := ⟨⟨by decide +kernel, by decide +kernel⟩, List.mem_of_getElem? (i := 489) (by decide +kernel), List.mem_of_getElem? (i := 662) (by decide +kernel), List.mem_of_getElem? (i := 663) (by decide +kernel)⟩
theorem lw_p40 : lw_okq (⟨"TrapGateModel", "give", "(III)V"⟩, 28) := ⟨⟨by decide +kernel, by decide +kernel⟩, List.mem_of_getElem? (i := 489) (by decide +kernel), List.mem_of_getElem? (i := 666) (by decide +kernel), List.mem_of_getElem? (i := 667) (by decide +kernel)⟩
theorem lw_p41 : lw_okq (⟨"TrapGateModel", "newOpen", "(IIII)I"⟩, 28) := ⟨⟨by decide +kernel, by decide +kernel⟩, List.mem_of_getElem? (i := 489) (by decide +kernel), List.mem_of_getElem? (i := 670) (by decide +kernel), List.mem_of_getElem? (i := 671) (by decide +kernel)⟩
theorem lw_p42 : lw_okq (⟨"TrapGateModel", "close", "()I"⟩, 28) := ⟨⟨by decide +kernel, by decide +kernel⟩, List.mem_of_getElem? (i := 489) (by decide +kernel), List.mem_of_getElem? (i := 674) (by decide +kernel), List.mem_of_getElem? (i := 675) (by decide +kernel)⟩
theorem lw_p43 : lw_okq (⟨"TrapGateModel", "opened", "()I"⟩, 28) := ⟨⟨by decide +kernel, by decide +kernel⟩, List.mem_of_getElem? (i := 489) (by decide +kernel), List.mem_of_getElem? (i := 678) (by decide +kernel), List.mem_of_getElem? (i := 679) (by decide +kernel)⟩
theorem lw_p44 : lw_okq (⟨"TrapGateModel", "transfer", "(ZZ)I"⟩, 28) := ⟨⟨by decide +kernel, by decide +kernel⟩, List.mem_of_getElem? (i := 489) (by decide +kernel), List.mem_of_getElem? (i := 682) (by decide +kernel), List.mem_of_getElem? (i := 683) (by decide +kernel)⟩
theorem lw_p45 : lw_okq (⟨"TrapGateModel", "gather", "(ZZ)Z"⟩, 28) := ⟨⟨by decide +kernel, by decide +kernel⟩, List.mem_of_getElem? (i := 489) (by decide +kernel), List.mem_of_getElem? (i := 686) (by decide +kernel), List.mem_of_getElem? (i := 687) (by decide +kernel)⟩
theorem lw_p46 : lw_okq (⟨"TrapGateModel", "range", "(III)Z"⟩, 28) := ⟨⟨by decide +kernel, by decide +kernel⟩, List.mem_of_getElem? (i := 489) (by decide +kernel), List.mem_of_getElem? (i := 690) (by decide +kernel), List.mem_of_getElem? (i := 691) (by decide +kernel)⟩
theorem lw_p47 : lw_okq (⟨"TrapGateModel", "take", "()V"⟩, 28) := ⟨⟨by decide +kernel, by decide +kernel⟩, List.mem_of_getElem? (i := 489) (by decide +kernel), List.mem_of_getElem? (i := 694) (by decide +kernel), List.mem_of_getElem? (i := 695) (by decide +kernel)⟩
def lw_privs_3 : List (MethodName × Nat) := [(⟨"TrapGateModel", "string", "(II)Z"⟩, 28), (⟨"TrapGateModel", "place", "(II)I"⟩, 28), (⟨"TrapGateModel", "name", "(I)I"⟩, 28), (⟨"TrapGateModel", "isName", "(II)Z"⟩, 28), (⟨"TrapGateModel", "freeDescriptor", "()I"⟩, 28), (⟨"TrapGateModel", "freeOpen", "()I"⟩, 28), (⟨"TrapGateModel", "freeFile", "()I"⟩, 28), (⟨"TrapGateModel", "freeName", "()I"⟩, 28), (⟨"TrapGateModel", "give", "(III)V"⟩, 28), (⟨"TrapGateModel", "newOpen", "(IIII)I"⟩, 28), (⟨"TrapGateModel", "close", "()I"⟩, 28), (⟨"TrapGateModel", "opened", "()I"⟩, 28), (⟨"TrapGateModel", "transfer", "(ZZ)I"⟩, 28), (⟨"TrapGateModel", "gather", "(ZZ)Z"⟩, 28), (⟨"TrapGateModel", "range", "(III)Z"⟩, 28), (⟨"TrapGateModel", "take", "()V"⟩, 28)]
theorem lw_r3 : ∀ q ∈ lw_privs_3, lw_okq q := List.forall_mem_cons.mpr ⟨lw_p32, List.forall_mem_cons.mpr ⟨lw_p33, List.forall_mem_cons.mpr ⟨lw_p34, List.forall_mem_cons.mpr ⟨lw_p35, List.forall_mem_cons.mpr ⟨lw_p36, List.forall_mem_cons.mpr ⟨lw_p37, List.forall_mem_cons.mpr ⟨lw_p38, List.forall_mem_cons.mpr ⟨lw_p39, List.forall_mem_cons.mpr ⟨lw_p40, List.forall_mem_cons.mpr ⟨lw_p41, List.forall_mem_cons.mpr ⟨lw_p42, List.forall_mem_cons.mpr ⟨lw_p43, List.forall_mem_cons.mpr ⟨lw_p44, List.forall_mem_cons.mpr ⟨lw_p45, List.forall_mem_cons.mpr ⟨lw_p46, List.forall_mem_cons.mpr ⟨lw_p47, fun _ h => absurd h List.not_mem_nil⟩⟩⟩⟩⟩⟩⟩⟩⟩⟩⟩⟩⟩⟩⟩⟩
theorem lw_p48 : lw_okq (⟨"TrapGateModel", "toFile", "(I)I"⟩, 28) := ⟨⟨by decide +kernel, by decide +kernel⟩, List.mem_of_getElem? (i := 489) (by decide +kernel), List.mem_of_getElem? (i := 698) (by decide +kernel), List.mem_of_getElem? (i := 699) (by decide +kernel)⟩
theorem lw_p49 : lw_okq (⟨"TrapGateModel", "toPipe", "(I)I"⟩, 28) := ⟨⟨by decide +kernel, by decide +kernel⟩, List.mem_of_getElem? (i := 489) (by decide +kernel), List.mem_of_getElem? (i := 702) (by decide +kernel), List.mem_of_getElem? (i := 703) (by decide +kernel)⟩
theorem lw_p50 : lw_okq (⟨"TrapGateModel", "opensOf", "(II)I"⟩, 28) := ⟨⟨by decide +kernel, by decide +kernel⟩, List.mem_of_getElem? (i := 489) (by decide +kernel), List.mem_of_getElem? (i := 706) (by decide +kernel), List.mem_of_getElem? (i := 707) (by decide +kernel)⟩
theorem lw_p51 : lw_okq (⟨"TrapGateModel", "fromFile", "(I)I"⟩, 28) := ⟨⟨by decide +kernel, by decide +kernel⟩, List.mem_of_getElem? (i := 489) (by decide +kernel), List.mem_of_getElem? (i := 710) (by decide +kernel), List.mem_of_getElem? (i := 711) (by decide +kernel)⟩
theorem lw_p52 : lw_okq (⟨"TrapGateModel", "fromPipe", "(I)I"⟩, 28) := ⟨⟨by decide +kernel, by decide +kernel⟩, List.mem_of_getElem? (i := 489) (by decide +kernel), List.mem_of_getElem? (i := 714) (by decide +kernel), List.mem_of_getElem? (i := 715) (by decide +kernel)⟩
theorem lw_p53 : lw_okq (⟨"TrapGateModel", "seek", "()I"⟩, 28) := ⟨⟨by decide +kernel, by decide +kernel⟩, List.mem_of_getElem? (i := 489) (by decide +kernel), List.mem_of_getElem? (i := 718) (by decide +kernel), List.mem_of_getElem? (i := 719) (by decide +kernel)⟩
theorem lw_p54 : lw_okq (⟨"TrapGateModel", "dup", "()I"⟩, 28) := ⟨⟨by decide +kernel, by decide +kernel⟩, List.mem_of_getElem? (i := 489) (by decide +kernel), List.mem_of_getElem? (i := 722) (by decide +kernel), List.mem_of_getElem? (i := 723) (by decide +kernel)⟩
theorem lw_p55 : lw_okq (⟨"TrapGateModel", "unlink", "()I"⟩, 28) := ⟨⟨by decide +kernel, by decide +kernel⟩, List.mem_of_getElem? (i := 489) (by decide +kernel), List.mem_of_getElem? (i := 726) (by decide +kernel), List.mem_of_getElem? (i := 727) (by decide +kernel)⟩
theorem lw_p56 : lw_okq (⟨"TrapGateModel", "second", "(I)I"⟩, 28) := ⟨⟨by decide +kernel, by decide +kernel⟩, List.mem_of_getElem? (i := 489) (by decide +kernel), List.mem_of_getElem? (i := 730) (by decide +kernel), List.mem_of_getElem? (i := 731) (by decide +kernel)⟩
theorem lw_p57 : lw_okq (⟨"TrapGateModel", "link", "()I"⟩, 28) := ⟨⟨by decide +kernel, by decide +kernel⟩, List.mem_of_getElem? (i := 489) (by decide +kernel), List.mem_of_getElem? (i := 734) (by decide +kernel), List.mem_of_getElem? (i := 735) (by decide +kernel)⟩
theorem lw_p58 : lw_okq (⟨"TrapGateModel", "strings", "()Z"⟩, 28) := ⟨⟨by decide +kernel, by decide +kernel⟩, List.mem_of_getElem? (i := 489) (by decide +kernel), List.mem_of_getElem? (i := 738) (by decide +kernel), List.mem_of_getElem? (i := 739) (by decide +kernel)⟩
theorem lw_p59 : lw_okq (⟨"TrapGateModel", "stat", "()I"⟩, 28) := ⟨⟨by decide +kernel, by decide +kernel⟩, List.mem_of_getElem? (i := 489) (by decide +kernel), List.mem_of_getElem? (i := 742) (by decide +kernel), List.mem_of_getElem? (i := 743) (by decide +kernel)⟩
theorem lw_p60 : lw_okq (⟨"TrapGateModel", "namesOf", "(I)I"⟩, 28) := ⟨⟨by decide +kernel, by decide +kernel⟩, List.mem_of_getElem? (i := 489) (by decide +kernel), List.mem_of_getElem? (i := 746) (by decide +kernel), List.mem_of_getElem? (i := 747) (by decide +kernel)⟩
theorem lw_p61 : lw_okq (⟨"TrapGateModel", "pipes", "()I"⟩, 28) := ⟨⟨by decide +kernel, by decide +kernel⟩, List.mem_of_getElem? (i := 489) (by decide +kernel), List.mem_of_getElem? (i := 750) (by decide +kernel), List.mem_of_getElem? (i := 751) (by decide +kernel)⟩
theorem lw_p62 : lw_okq (⟨"TrapGateModel", "list", "()I"⟩, 28) := ⟨⟨by decide +kernel, by decide +kernel⟩, List.mem_of_getElem? (i := 489) (by decide +kernel), List.mem_of_getElem? (i := 762) (by decide +kernel), List.mem_of_getElem? (i := 763) (by decide +kernel)⟩
theorem lw_p63 : lw_okq (⟨"TrapGateModel", "before", "(II)Z"⟩, 28) := ⟨⟨by decide +kernel, by decide +kernel⟩, List.mem_of_getElem? (i := 489) (by decide +kernel), List.mem_of_getElem? (i := 766) (by decide +kernel), List.mem_of_getElem? (i := 767) (by decide +kernel)⟩
def lw_privs_4 : List (MethodName × Nat) := [(⟨"TrapGateModel", "toFile", "(I)I"⟩, 28), (⟨"TrapGateModel", "toPipe", "(I)I"⟩, 28), (⟨"TrapGateModel", "opensOf", "(II)I"⟩, 28), (⟨"TrapGateModel", "fromFile", "(I)I"⟩, 28), (⟨"TrapGateModel", "fromPipe", "(I)I"⟩, 28), (⟨"TrapGateModel", "seek", "()I"⟩, 28), (⟨"TrapGateModel", "dup", "()I"⟩, 28), (⟨"TrapGateModel", "unlink", "()I"⟩, 28), (⟨"TrapGateModel", "second", "(I)I"⟩, 28), (⟨"TrapGateModel", "link", "()I"⟩, 28), (⟨"TrapGateModel", "strings", "()Z"⟩, 28), (⟨"TrapGateModel", "stat", "()I"⟩, 28), (⟨"TrapGateModel", "namesOf", "(I)I"⟩, 28), (⟨"TrapGateModel", "pipes", "()I"⟩, 28), (⟨"TrapGateModel", "list", "()I"⟩, 28), (⟨"TrapGateModel", "before", "(II)Z"⟩, 28)]
theorem lw_r4 : ∀ q ∈ lw_privs_4, lw_okq q := List.forall_mem_cons.mpr ⟨lw_p48, List.forall_mem_cons.mpr ⟨lw_p49, List.forall_mem_cons.mpr ⟨lw_p50, List.forall_mem_cons.mpr ⟨lw_p51, List.forall_mem_cons.mpr ⟨lw_p52, List.forall_mem_cons.mpr ⟨lw_p53, List.forall_mem_cons.mpr ⟨lw_p54, List.forall_mem_cons.mpr ⟨lw_p55, List.forall_mem_cons.mpr ⟨lw_p56, List.forall_mem_cons.mpr ⟨lw_p57, List.forall_mem_cons.mpr ⟨lw_p58, List.forall_mem_cons.mpr ⟨lw_p59, List.forall_mem_cons.mpr ⟨lw_p60, List.forall_mem_cons.mpr ⟨lw_p61, List.forall_mem_cons.mpr ⟨lw_p62, List.forall_mem_cons.mpr ⟨lw_p63, fun _ h => absurd h List.not_mem_nil⟩⟩⟩⟩⟩⟩⟩⟩⟩⟩⟩⟩⟩⟩⟩⟩
theorem lw_p64 : lw_okq (⟨"TrapGateModel", "copy", "()I"⟩, 28) := ⟨⟨by decide +kernel, by decide +kernel⟩, List.mem_of_getElem? (i := 489) (by decide +kernel), List.mem_of_getElem? (i := 770) (by decide +kernel), List.mem_of_getElem? (i := 771) (by decide +kernel)⟩
theorem lw_p65 : lw_okq (⟨"TrapGateModel", "protect", "()I"⟩, 28) := ⟨⟨by decide +kernel, by decide +kernel⟩, List.mem_of_getElem? (i := 489) (by decide +kernel), List.mem_of_getElem? (i := 774) (by decide +kernel), List.mem_of_getElem? (i := 775) (by decide +kernel)⟩
theorem lw_p66 : lw_okq (⟨"TrapGateModel", "rename", "()I"⟩, 28) := ⟨⟨by decide +kernel, by decide +kernel⟩, List.mem_of_getElem? (i := 489) (by decide +kernel), List.mem_of_getElem? (i := 778) (by decide +kernel), List.mem_of_getElem? (i := 779) (by decide +kernel)⟩
theorem lw_p67 : lw_okq (⟨"TrapGateModel", "sweep", "()V"⟩, 28) := ⟨⟨by decide +kernel, by decide +kernel⟩, List.mem_of_getElem? (i := 489) (by decide +kernel), List.mem_of_getElem? (i := 782) (by decide +kernel), List.mem_of_getElem? (i := 783) (by decide +kernel)⟩
def lw_privs_5 : List (MethodName × Nat) := [(⟨"TrapGateModel", "copy", "()I"⟩, 28), (⟨"TrapGateModel", "protect", "()I"⟩, 28), (⟨"TrapGateModel", "rename", "()I"⟩, 28), (⟨"TrapGateModel", "sweep", "()V"⟩, 28)]
theorem lw_r5 : ∀ q ∈ lw_privs_5, lw_okq q := List.forall_mem_cons.mpr ⟨lw_p64, List.forall_mem_cons.mpr ⟨lw_p65, List.forall_mem_cons.mpr ⟨lw_p66, List.forall_mem_cons.mpr ⟨lw_p67, fun _ h => absurd h List.not_mem_nil⟩⟩⟩⟩
def lw_privs : List (MethodName × Nat) := lw_privs_1 ++ (lw_privs_2 ++ (lw_privs_3 ++ (lw_privs_4 ++ (lw_privs_5))))
def lw_tbl : List Cond := k2_sels lw_privs ++ tables_1
theorem lw_privs_ok : ∀ q ∈ lw_privs, lw_okq q := by
  show ∀ q ∈ lw_privs_1 ++ (lw_privs_2 ++ (lw_privs_3 ++ (lw_privs_4 ++ (lw_privs_5)))), lw_okq q
  exact List.forall_mem_append.mpr ⟨lw_r1, List.forall_mem_append.mpr ⟨lw_r2, List.forall_mem_append.mpr ⟨lw_r3, List.forall_mem_append.mpr ⟨lw_r4, lw_r5⟩⟩⟩⟩
end
section
/-! The tables' words that a method may hand to those that it calls (o_TT), the words between nest mates (o_NW), the kinds of objects (o_cl). -/
def o_TT : List Cond := lw_tbl.filter goodWord
def o_isN (w : Cond) : Bool := match w with
  | .fieldLinkNest _ _ _ _ _ _ => true
  | .methodLinkNest _ _ _ _ => true
  | _ => false
def o_NW : List Cond := lw_tbl.filter o_isN
def o_AO : List String := ["TrapGate$StoredFile", "TrapGate$Pipe"]
theorem o_TT_good (w : Cond) (h : w ∈ o_TT) : (w.onTables && w.keeps) = true ∨ ∃ ty, w = .arrayClass ty := good_of_word (List.mem_filter.mp h).2
theorem o_NW_tab (w : Cond) (h : w ∈ o_NW) : w.onTables = true := by
  have h2 := (List.mem_filter.mp h).2
  cases w <;> first | rfl | (simp [o_isN] at h2; done)
theorem o_NW_warm {s U : State} (w : Cond) (h : w ∈ o_NW) (hW : s.WarmedH U.vm) (hZ : va_Nw w s) : va_Nw w U := by
  have h2 := (List.mem_filter.mp h).2
  cases w <;> first | exact va_Nw.warmF hW hZ | exact va_Nw.warmM hW hZ | (simp [o_isN] at h2; done)
theorem o_inT {w : Cond} (i : Nat) (h : lw_tbl[i]? = some w) (hg : goodWord w = true) : w ∈ o_TT := List.mem_filter.mpr ⟨List.mem_of_getElem? h, hg⟩
theorem o_inN {w : Cond} (i : Nat) (h : lw_tbl[i]? = some w) (hg : o_isN w = true) : w ∈ o_NW := List.mem_filter.mpr ⟨List.mem_of_getElem? h, hg⟩
def RX0 : String := "TrapGate$Memory"
def TX0 : u_T := fun k => match k with
  | 0 => ("TrapGate$Memory", "bytes", "[I", true)
  | _ => ("TrapGate$Memory", "entries", "[I", true)
def tyX0 : Nat → FieldType := fun k => match k with
  | 0 => .array .int
  | _ => .array .int
theorem nmX0 : ∀ a, a < 2 → ∀ b, b < 2 → a ≠ b → (TX0 a).2.1 ≠ (TX0 b).2.1 := by decide +kernel
theorem tyX0_ok : ∀ k, k < 2 → parseFieldDescriptor (TX0 k).2.2.1 = some (tyX0 k) := by decide +kernel
def RX1 : String := "TrapGate$Names"
def TX1 : u_T := fun k => match k with
  | 0 => ("TrapGate$Names", "texts", "[J", true)
  | 1 => ("TrapGate$Names", "files", "[I", true)
  | _ => ("TrapGate$Names", "size", "I", false)
def tyX1 : Nat → FieldType := fun k => match k with
  | 0 => .array .long
  | 1 => .array .int
  | _ => .int
theorem nmX1 : ∀ a, a < 3 → ∀ b, b < 3 → a ≠ b → (TX1 a).2.1 ≠ (TX1 b).2.1 := by decide +kernel
theorem tyX1_ok : ∀ k, k < 3 → parseFieldDescriptor (TX1 k).2.2.1 = some (tyX1 k) := by decide +kernel
def RX2 : String := "TrapGate$Opens"
def TX2 : u_T := fun k => match k with
  | 0 => ("TrapGate$Opens", "standsFor", "[I", true)
  | 1 => ("TrapGate$Opens", "holders", "[I", true)
  | 2 => ("TrapGate$Opens", "targets", "[I", true)
  | 3 => ("TrapGate$Opens", "modes", "[I", true)
  | _ => ("TrapGate$Opens", "positions", "[I", true)
def tyX2 : Nat → FieldType := fun k => match k with
  | 0 => .array .int
  | 1 => .array .int
  | 2 => .array .int
  | 3 => .array .int
  | _ => .array .int
theorem nmX2 : ∀ a, a < 5 → ∀ b, b < 5 → a ≠ b → (TX2 a).2.1 ≠ (TX2 b).2.1 := by decide +kernel
theorem tyX2_ok : ∀ k, k < 5 → parseFieldDescriptor (TX2 k).2.2.1 = some (tyX2 k) := by decide +kernel
def RX3 : String := "TrapGate$Pipe"
def TX3 : u_T := fun k => match k with
  | 0 => ("TrapGate$Pipe", "bytes", "[I", true)
  | _ => ("TrapGate$Pipe", "size", "I", false)
def tyX3 : Nat → FieldType := fun k => match k with
  | 0 => .array .int
  | _ => .int
theorem nmX3 : ∀ a, a < 2 → ∀ b, b < 2 → a ≠ b → (TX3 a).2.1 ≠ (TX3 b).2.1 := by decide +kernel
theorem tyX3_ok : ∀ k, k < 2 → parseFieldDescriptor (TX3 k).2.2.1 = some (tyX3 k) := by decide +kernel
def RX4 : String := "TrapGate$Ranges"
def TX4 : u_T := fun k => match k with
  | 0 => ("TrapGate$Ranges", "starts", "[I", true)
  | 1 => ("TrapGate$Ranges", "lengths", "[I", true)
  | _ => ("TrapGate$Ranges", "size", "I", false)
def tyX4 : Nat → FieldType := fun k => match k with
  | 0 => .array .int
  | 1 => .array .int
  | _ => .int
theorem nmX4 : ∀ a, a < 3 → ∀ b, b < 3 → a ≠ b → (TX4 a).2.1 ≠ (TX4 b).2.1 := by decide +kernel
theorem tyX4_ok : ∀ k, k < 3 → parseFieldDescriptor (TX4 k).2.2.1 = some (tyX4 k) := by decide +kernel
def RX5 : String := "TrapGate$StoredFile"
def TX5 : u_T := fun k => match k with
  | 0 => ("TrapGate$StoredFile", "bytes", "[I", true)
  | _ => ("TrapGate$StoredFile", "length", "I", false)
def tyX5 : Nat → FieldType := fun k => match k with
  | 0 => .array .int
  | _ => .int
theorem nmX5 : ∀ a, a < 2 → ∀ b, b < 2 → a ≠ b → (TX5 a).2.1 ≠ (TX5 b).2.1 := by decide +kernel
theorem tyX5_ok : ∀ k, k < 2 → parseFieldDescriptor (TX5 k).2.2.1 = some (tyX5 k) := by decide +kernel
def RX6 : String := "TrapGate"
def TX6 : u_T := fun k => match k with
  | 0 => ("TrapGate", "memory", "LTrapGate$Memory;", true)
  | 1 => ("TrapGate", "registers", "[I", true)
  | 2 => ("TrapGate", "names", "LTrapGate$Names;", true)
  | 3 => ("TrapGate", "opens", "LTrapGate$Opens;", true)
  | 4 => ("TrapGate", "files", "[LTrapGate$StoredFile;", true)
  | 5 => ("TrapGate", "pipes", "[LTrapGate$Pipe;", true)
  | 6 => ("TrapGate", "ranges", "LTrapGate$Ranges;", true)
  | 7 => ("TrapGate", "buffer", "[I", true)
  | _ => ("TrapGate", "trapsMade", "I", false)
def tyX6 : Nat → FieldType := fun k => match k with
  | 0 => .object "TrapGate$Memory"
  | 1 => .array .int
  | 2 => .object "TrapGate$Names"
  | 3 => .object "TrapGate$Opens"
  | 4 => .array (.object "TrapGate$StoredFile")
  | 5 => .array (.object "TrapGate$Pipe")
  | 6 => .object "TrapGate$Ranges"
  | 7 => .array .int
  | _ => .int
theorem nmX6 : ∀ a, a < 9 → ∀ b, b < 9 → a ≠ b → (TX6 a).2.1 ≠ (TX6 b).2.1 := by decide +kernel
theorem tyX6_ok : ∀ k, k < 9 → parseFieldDescriptor (TX6 k).2.2.1 = some (tyX6 k) := by decide +kernel
def RX7 : String := "TrapGateModel"
def TX7 : u_T := fun k => match k with
  | 0 => ("TrapGateModel", "memory", "[I", true)
  | 1 => ("TrapGateModel", "frames", "[I", true)
  | 2 => ("TrapGateModel", "flags", "[I", true)
  | 3 => ("TrapGateModel", "registers", "[I", true)
  | 4 => ("TrapGateModel", "traps", "I", false)
  | 5 => ("TrapGateModel", "file", "[Z", true)
  | 6 => ("TrapGateModel", "size", "[I", true)
  | 7 => ("TrapGateModel", "data", "[I", true)
  | 8 => ("TrapGateModel", "nameSize", "[I", true)
  | 9 => ("TrapGateModel", "nameBytes", "[I", true)
  | 10 => ("TrapGateModel", "nameFile", "[I", true)
  | 11 => ("TrapGateModel", "kind", "[I", true)
  | 12 => ("TrapGateModel", "of", "[I", true)
  | 13 => ("TrapGateModel", "position", "[I", true)
  | 14 => ("TrapGateModel", "mode", "[I", true)
  | 15 => ("TrapGateModel", "pipe", "[Z", true)
  | 16 => ("TrapGateModel", "held", "[I", true)
  | 17 => ("TrapGateModel", "inPipe", "[I", true)
  | 18 => ("TrapGateModel", "descriptor", "[I", true)
  | 19 => ("TrapGateModel", "who", "I", false)
  | 20 => ("TrapGateModel", "a0", "I", false)
  | 21 => ("TrapGateModel", "a1", "I", false)
  | 22 => ("TrapGateModel", "a2", "I", false)
  | 23 => ("TrapGateModel", "spots", "I", false)
  | 24 => ("TrapGateModel", "spot", "[I", true)
  | 25 => ("TrapGateModel", "taken", "[I", true)
  | 26 => ("TrapGateModel", "text", "[I", true)
  | _ => ("TrapGateModel", "textSize", "[I", true)
def tyX7 : Nat → FieldType := fun k => match k with
  | 0 => .array .int
  | 1 => .array .int
  | 2 => .array .int
  | 3 => .array .int
  | 4 => .int
  | 5 => .array .boolean
  | 6 => .array .int
  | 7 => .array .int
  | 8 => .array .int
  | 9 => .array .int
  | 10 => .array .int
  | 11 => .array .int
  | 12 => .array .int
  | 13 => .array .int
  | 14 => .array .int
  | 15 => .array .boolean
  | 16 => .array .int
  | 17 => .array .int
  | 18 => .array .int
  | 19 => .int
  | 20 => .int
  | 21 => .int
  | 22 => .int
  | 23 => .int
  | 24 => .array .int
  | 25 => .array .int
  | 26 => .array .int
  | _ => .array .int
theorem nmX7 : ∀ a, a < 28 → ∀ b, b < 28 → a ≠ b → (TX7 a).2.1 ≠ (TX7 b).2.1 := by decide +kernel
theorem tyX7_ok : ∀ k, k < 28 → parseFieldDescriptor (TX7 k).2.2.1 = some (tyX7 k) := by decide +kernel
abbrev o_cl : List vw_C := [(RX0, TX0, 2), (RX1, TX1, 3), (RX2, TX2, 5), (RX3, TX3, 2), (RX4, TX4, 3), (RX5, TX5, 2), (RX6, TX6, 9), (RX7, TX7, 28)]
end
section
/-! The pure machine. A cell is an array (number of its type, length, contents) or an object (number of its kind, fields); a heap is the list of the cells in the order of their making; the value .ref (k + 1) stands for cell k, .ref 0 for the law's script. G: (launch, the script's cell, its length, the script, numbers and slots of the kinds of objects, of the kinds of arrays, the heap at the law's entry). -/
abbrev oE : Type := (Nat × vp_A) ⊕ (Nat × List Value)
abbrev oH : Type := List oE
abbrev oL : Type := List (Nat × Value)
abbrev oG : Type := Launch × Nat × Nat × (Nat → Int32) × va_G × (Nat → ClassId) × Heap
abbrev gl (G : oG) : Launch := G.1
abbrev gb (G : oG) : Nat := G.2.1
abbrev gn (G : oG) : Nat := G.2.2.1
abbrev gx (G : oG) : Nat → Int32 := G.2.2.2.1
abbrev gD (G : oG) : va_G := G.2.2.2.2.1
abbrev gA (G : oG) : Nat → ClassId := G.2.2.2.2.2.1
abbrev gH (G : oG) : Heap := G.2.2.2.2.2.2
/-- M: a method: (name, bytes, number of locals, what it returns, frames below it, room for their locals) -/
abbrev oM : Type := MethodName × ByteArray × Nat × Option FieldType × Nat × Nat
abbrev mY (M : oM) : MethodName := M.1
abbrev mC (M : oM) : ByteArray := M.2.1
abbrev mL (M : oM) : Nat := M.2.2.1
abbrev mR (M : oM) : Option FieldType := M.2.2.2.1
abbrev mD (M : oM) : Nat := M.2.2.2.2.1
abbrev mQ (M : oM) : Nat := M.2.2.2.2.2
abbrev oP : Type := Option Value → oH → Prop
abbrev oK : Type := Nat → Nat → oL → List Value → oH → Prop
def o_ad (G : oG) (a : Nat) : Nat := match a with
  | 0 => gb G
  | k + 1 => (gH G).size + k
def o_rl (G : oG) (v : Value) : Value := match v with
  | .int x => .int x
  | .long x => .long x
  | .float x => .float x
  | .double x => .double x
  | .null => .null
  | .ref a => .ref (o_ad G a)
  | .retAddr x => .retAddr x
def o_rX (G : oG) (x : (Nat → Int32) ⊕ (Nat → Int64) ⊕ (Nat → UInt32) ⊕ (Nat → UInt64) ⊕ (Nat → Option Nat)) : (Nat → Int32) ⊕ (Nat → Int64) ⊕ (Nat → UInt32) ⊕ (Nat → UInt64) ⊕ (Nat → Option Nat) := match x with
  | .inl f => .inl f
  | .inr (.inl f) => .inr (.inl f)
  | .inr (.inr (.inl f)) => .inr (.inr (.inl f))
  | .inr (.inr (.inr (.inl f))) => .inr (.inr (.inr (.inl f)))
  | .inr (.inr (.inr (.inr f))) => .inr (.inr (.inr (.inr (fun j => (f j).map (o_ad G)))))
def o_rE (G : oG) (e : oE) : va_E := match e with
  | .inl a => .inl (gA G a.1, a.2.1, o_rX G a.2.2)
  | .inr o => .inr (o.1, o.2.map (o_rl G))
def o_rL (G : oG) (L : oL) : List (Nat × Value) := L.map fun q => (q.1, o_rl G q.2)
def o_ws (G : oG) (h : oH) : va_W := h.mapIdx fun k e => ((gH G).size + k, o_rE G e)
def o_A (G : oG) : Nat → Prop := fun q => (gH G).size ≤ q
def o_tys (G : oG) : List (ClassId × FieldType) := [(gA G 0, .int), (gA G 1, .long), (gA G 2, .boolean), (gA G 3, .object "TrapGate$StoredFile"), (gA G 4, .object "TrapGate$Pipe")]
def o_Wd (G : oG) (h : oH) (H : Heap) (locs : List Loc) : Prop := va_P (gD G) o_cl (o_ws G h) H ∧ va_D (o_A G) (o_ws G h) ∧ va_S (o_A G) (gH G) H locs ∧ H.size = (gH G).size + h.length
def o_Sf (G : oG) (U : State) : Prop := va_K (gD G) o_cl (o_tys G) U ∧ va_X (gb G) (gn G) (gx G) U (gH G) ∧ gb G < (gH G).size ∧ (∀ w ∈ o_NW, va_Nw w U) ∧ ∀ C ∈ o_AO, va_AO C U
def o_rets (M : oM) (pc : Nat) (v : Option Value) : Prop := match v with
  | none => mR M = none ∧ decode (mC M) pc = .ok (.return_, 1)
  | some (.int x) => (∃ ty, mR M = some ty ∧ narrow ty (.int x) = .int x) ∧ decode (mC M) pc = .ok (.ireturn, 1)
  | some (.long _) => mR M = some .long ∧ decode (mC M) pc = .ok (.lreturn, 1)
  | some _ => False
def o_Env (G : oG) (M : oM) (Post : oP) (p : Program) (e : Env) (R : Room) (s : State) (m : MethodId) (args : Array Value) (below : List Frame) (meth : Method) (c : Code) (Q : State → Prop) : Prop :=
  p.tables.exec = Jvm.exec ∧ c.code = mC M ∧ c.maxLocals = mL M ∧ s.vm.findClass (mY M).cls = some m.cls ∧ meth.name = (mY M).name ∧ (∀ w ∈ o_TT, w.before args s = true) ∧ mD M ≤ R.frames ∧ mQ M ≤ R.locals ∧ o_Sf G s ∧
  ∀ (v : Option Value) (h : oH) (H : Heap) (locs : List Loc) (ls : Array Slot) (pc cells slots : Nat), Post v h → o_Wd G h H locs → cells ≤ R.cells → slots ≤ R.slots → o_rets M pc v → W p (gl G) e R s m args below meth c H locs cells slots Q (F0 m pc ls (v.toList.map (o_rl G)))
/-- from pc of the method M, with locals L, stack st and heap h, at most c cells of s slots being made, the method returns what Post says -/
def Wp (G : oG) (M : oM) (Post : oP) (pc : Nat) (c s : Nat) (L : oL) (st : List Value) (h : oH) : Prop :=
  ∀ (p : Program) (e : Env) (R : Room) (s0 : State) (m : MethodId) (args : Array Value) (below : List Frame) (meth : Method) (cd : Code) (Q : State → Prop) (H : Heap) (locs : List Loc) (cells slots : Nat) (ls : Array Slot),
    o_Env G M Post p e R s0 m args below meth cd Q → o_Wd G h H locs → cells + c ≤ R.cells → slots + s ≤ R.slots → lv_has ls (mL M) (o_rL G L) → W p (gl G) e R s0 m args below meth cd H locs cells slots Q (F0 m pc ls (st.map (o_rl G)))
/-- a stretch of code, as a condition on where it begins, is right at pc -/
def oS (G : oG) (M : oM) (Post : oP) (pc : Nat) (K : oK) : Prop := ∀ (c s : Nat) (L : oL) (st : List Value) (h : oH), K c s L st h → Wp G M Post pc c s L st h
abbrev mW (M : oM) : Cond := .code (mY M) (mC M) (mL M) (mR M)
abbrev mRm (M : oM) (mc ms : Nat) : Room := { frames := mD M, cells := mc, slots := ms, locals := mQ M }
def o_Pc (G : oG) (as : List Value) (h : oH) : Array Value → State → Prop := fun a U => a = (as.map (o_rl G)).toArray ∧ o_Wd G h U.heap [] ∧ o_Sf G U
def o_Qc (G : oG) (Post : oP) : Array Value → State → Outcome → State → Prop := fun _ _ o t => ∃ (v : Option Value) (h' : oH), Post v h' ∧ o = .returned (v.map (o_rl G)) ∧ o_Wd G h' t.heap []
/-- the contract: on these arguments and this heap M returns what Post says, and makes at most mc cells of ms slots -/
def Mt (G : oG) (M : oM) (as : List Value) (h : oH) (mc ms : Nat) (Post : oP) : Prop :=
  Met (gl G) (mY M) (mW M :: o_TT) (mRm M mc ms) (o_Pc G as h) (o_Qc G Post) mc ms (o_A G)
-- small facts
theorem o_cat (G : oG) (v : Value) : (o_rl G v).category = v.category := by cases v <;> rfl
theorem o_ws_len (G : oG) (h : oH) : (o_ws G h).length = h.length := by simp [o_ws]
theorem o_ws_at {G : oG} {h : oH} {k : Nat} {e : oE} (hk : h[k]? = some e) : (o_ws G h)[k]? = some ((gH G).size + k, o_rE G e) := by simp [o_ws, hk]
theorem o_ws_set (G : oG) (h : oH) (k : Nat) (e : oE) : o_ws G (h.set k e) = (o_ws G h).set k ((gH G).size + k, o_rE G e) := by
  apply List.ext_getElem?
  intro j
  by_cases hj : k = j
  · subst hj
    by_cases hl : k < h.length
    · rw [List.getElem?_set_self (by rw [o_ws_len]; exact hl)]
      exact o_ws_at (List.getElem?_set_self hl)
    · rw [List.getElem?_eq_none (by rw [o_ws_len, List.length_set]; omega), List.getElem?_eq_none (by rw [List.length_set, o_ws_len]; omega)]
  · rw [List.getElem?_set_ne hj]
    simp only [o_ws, List.getElem?_mapIdx, List.getElem?_set_ne hj]
theorem o_ws_app (G : oG) (h : oH) (e : oE) : o_ws G (h ++ [e]) = o_ws G h ++ [((gH G).size + h.length, o_rE G e)] := by
  simp [o_ws, List.mapIdx_append]
theorem o_Wd.set {G : oG} {h : oH} {H H1 : Heap} {locs : List Loc} {k i : Nat} {e0 e : oE} (hW : o_Wd G h H locs) (hk : h[k]? = some e0) (he : va_at (gD G) o_cl ((gH G).size + k, o_rE G e) H1) (z : H1.size = H.size) (oq : ∀ q : Nat, q ≠ (gH G).size + k → H1[q]? = H[q]?) : o_Wd G (h.set k e) H1 (locs ++ [⟨(gH G).size + k, i⟩]) := by
  obtain ⟨hP, hD, hS, hz⟩ := hW
  have hk' := o_ws_at (G := G) hk
  unfold o_Wd
  rw [o_ws_set]
  exact ⟨hP.set hD hk' he oq, hD.set hk', hS.put z oq (hD.2 k _ hk'), by rw [z, hz, List.length_set]⟩
theorem o_Wd.push {G : oG} {h : oH} {H H1 : Heap} {locs : List Loc} {e : oE} (hW : o_Wd G h H locs) (he : va_at (gD G) o_cl (H.size, o_rE G e) H1) (z : H1.size = H.size + 1) (oq : ∀ q : Nat, q < H.size → H1[q]? = H[q]?) : o_Wd G (h ++ [e]) H1 locs := by
  obtain ⟨hP, hD, hS, hz⟩ := hW
  unfold o_Wd
  rw [o_ws_app, ← hz]
  have hk : ∀ (k : Nat) (x : Nat × va_E), (o_ws G h)[k]? = some x → H1[x.1]? = H[x.1]? := fun k x hx => oq x.1 ((hP k x hx).lt)
  refine ⟨(hP.kept hk).app (fun k x hx => ?_), hD.push hP rfl hS.1, ⟨Nat.le_trans hS.1 (by omega), fun x h1 h2 => (oq x (Nat.lt_of_lt_of_le h1 hS.1)).trans (hS.2.1 x h1 h2), hS.2.2⟩, by rw [z, hz, List.length_append]; rfl⟩
  have hz : k < 1 := (List.getElem?_eq_some_iff.mp hx).1
  rw [show k = 0 by omega] at hx
  cases hx
  exact he
theorem o_Wd.forget {G : oG} {h : oH} {H : Heap} {locs : List Loc} (hW : o_Wd G h H locs) : o_Wd G h H [] := ⟨hW.1, hW.2.1, ⟨hW.2.2.1.1, hW.2.2.1.2.1, fun _ h => absurd h List.not_mem_nil⟩, hW.2.2.2⟩
theorem o_Sf.same {G : oG} {u U : State} (h : u.vm = U.vm) (hS : o_Sf G u) : o_Sf G U := by
  obtain ⟨h1, h2, h3, h4, h5⟩ := hS
  have ha : u.vm.Alike U.vm := by rw [h]; exact Vm.Alike.refl _
  exact ⟨h1.moved ha, h2.moved ha, h3, fun w hw => va_Nw.same (o_NW_tab w hw) h (h4 w hw), fun C hC => (h5 C hC).moved ha⟩
theorem o_Sf.warm {G : oG} {s U : State} (hW : s.WarmedH U.vm) (hS : o_Sf G s) : o_Sf G U := by
  obtain ⟨h1, h2, h3, h4, h5⟩ := hS
  exact ⟨h1.moved hW.alike, h2.moved hW.alike, h3, fun w hw => o_NW_warm w hw hW (h4 w hw), fun C hC => (h5 C hC).moved hW.alike⟩
theorem o_blind (G : oG) (as : List Value) (h : oH) : FrameBlind (o_Pc G as h) := fun a U g mk ⟨h1, h2, h3⟩ => ⟨h1, h2, o_Sf.same (u := U) (U := U.calling g mk a) rfl h3⟩
end
section
/-! The instructions of the pure machine, each with the row that says it is the machine's. -/
def o_c2 (v : Value) : Bool := match v with
  | .long _ => true
  | .double _ => true
  | _ => false
theorem o_c2_1 {v : Value} (h : o_c2 v = false) : v.category = 1 := by cases v <;> first | rfl | simp [o_c2] at h
theorem o_c2_t {v : Value} (h : o_c2 v = true) : v.category = 2 := by cases v <;> first | rfl | simp [o_c2] at h
theorem o_c2_r (G : oG) (v : Value) : o_c2 (o_rl G v) = o_c2 v := by cases v <;> rfl
def o_lk : oL → Nat → Option Value
  | [], _ => none
  | (j, v) :: r, i => if j = i then some v else o_lk r i
def o_cl1 (i : Nat) : oL → oL
  | [] => []
  | (j, w) :: r => if j = i then o_cl1 i r else if j + 1 = i ∧ o_c2 w = true then o_cl1 i r else (j, w) :: o_cl1 i r
def o_up1 (i : Nat) (v : Value) : oL → oL
  | [] => [(i, v)]
  | (j, w) :: r => if j = i then (i, v) :: o_cl1 i r else if j + 1 = i ∧ o_c2 w = true then o_up1 i v r else (j, w) :: o_up1 i v r
def o_cl2 (i : Nat) : oL → oL
  | [] => []
  | (j, w) :: r => if j = i then o_cl2 i r else if j = i + 1 then o_cl2 i r else if j + 1 = i ∧ o_c2 w = true then o_cl2 i r else (j, w) :: o_cl2 i r
def o_up2 (i : Nat) (v : Value) : oL → oL
  | [] => [(i, v)]
  | (j, w) :: r => if j = i then (i, v) :: o_cl2 i r else if j = i + 1 then o_up2 i v r else if j + 1 = i ∧ o_c2 w = true then o_up2 i v r else (j, w) :: o_up2 i v r
def o_keep (ks : List Nat) (L : oL) : oL := match ks with
  | [] => []
  | k :: r => match o_lk L k with
    | some v => (k, v) :: o_keep r L
    | none => o_keep r L
theorem o_lk_mem {L : oL} {i : Nat} {v : Value} (h : o_lk L i = some v) : (i, v) ∈ L := by
  induction L with
  | nil => simp [o_lk] at h
  | cons q r ih =>
    obtain ⟨j, w⟩ := q
    simp only [o_lk] at h
    split at h
    · rename_i e
      subst e
      cases h
      exact List.mem_cons_self
    · exact List.mem_cons_of_mem _ (ih h)
theorem o_at {G : oG} {ls : Array Slot} {n : Nat} {L : oL} (hl : lv_has ls n (o_rL G L)) {i : Nat} {v : Value} (h : o_lk L i = some v) : ls[i]? = some (.val (o_rl G v)) :=
  hl.2.2 (i, o_rl G v) (List.mem_map.mpr ⟨(i, v), o_lk_mem h, rfl⟩)
theorem o_has_sub {G : oG} {ls : Array Slot} {n : Nat} {L L' : oL} (hl : lv_has ls n (o_rL G L)) (h : ∀ q ∈ L', q ∈ L) : lv_has ls n (o_rL G L') := by
  refine ⟨hl.1, hl.2.1, fun q hq => ?_⟩
  obtain ⟨x, hx, rfl⟩ := List.mem_map.mp hq
  exact hl.2.2 _ (List.mem_map.mpr ⟨x, h x hx, rfl⟩)
theorem o_keep_sub (ks : List Nat) (L : oL) : ∀ q ∈ o_keep ks L, q ∈ L := by
  induction ks with
  | nil => intro q hq; simp [o_keep] at hq
  | cons k r ih =>
    intro q hq
    unfold o_keep at hq
    split at hq
    · rename_i v hv
      rcases List.mem_cons.mp hq with h | h
      · rw [h]; exact o_lk_mem hv
      · exact ih q h
    · exact ih q hq
theorem o_cl1_mem {i : Nat} {L : oL} {q : Nat × Value} (h : q ∈ o_cl1 i L) : q ∈ L ∧ ¬ q.1 = i ∧ ¬ (q.1 + 1 = i ∧ o_c2 q.2 = true) := by
  induction L with
  | nil => simp [o_cl1] at h
  | cons x r ih =>
    obtain ⟨j, w⟩ := x
    simp only [o_cl1] at h
    split at h
    · exact ⟨List.mem_cons_of_mem _ (ih h).1, (ih h).2⟩
    · split at h
      · exact ⟨List.mem_cons_of_mem _ (ih h).1, (ih h).2⟩
      · rename_i h1 h2
        rcases List.mem_cons.mp h with e | e
        · subst e; exact ⟨List.mem_cons_self, h1, h2⟩
        · exact ⟨List.mem_cons_of_mem _ (ih e).1, (ih e).2⟩
theorem o_up1_mem {i : Nat} {v : Value} {L : oL} {q : Nat × Value} (h : q ∈ o_up1 i v L) : q = (i, v) ∨ (q ∈ L ∧ ¬ q.1 = i ∧ ¬ (q.1 + 1 = i ∧ o_c2 q.2 = true)) := by
  induction L with
  | nil => simp [o_up1] at h; exact Or.inl h
  | cons x r ih =>
    obtain ⟨j, w⟩ := x
    simp only [o_up1] at h
    split at h
    · rcases List.mem_cons.mp h with e | e
      · exact Or.inl e
      · exact Or.inr ⟨List.mem_cons_of_mem _ (o_cl1_mem e).1, (o_cl1_mem e).2⟩
    · split at h
      · rcases ih h with e | e
        · exact Or.inl e
        · exact Or.inr ⟨List.mem_cons_of_mem _ e.1, e.2⟩
      · rename_i h1 h2
        rcases List.mem_cons.mp h with e | e
        · subst e; exact Or.inr ⟨List.mem_cons_self, h1, h2⟩
        · rcases ih e with e | e
          · exact Or.inl e
          · exact Or.inr ⟨List.mem_cons_of_mem _ e.1, e.2⟩
theorem o_cl2_mem {i : Nat} {L : oL} {q : Nat × Value} (h : q ∈ o_cl2 i L) : q ∈ L ∧ ¬ q.1 = i ∧ ¬ q.1 = i + 1 ∧ ¬ (q.1 + 1 = i ∧ o_c2 q.2 = true) := by
  induction L with
  | nil => simp [o_cl2] at h
  | cons x r ih =>
    obtain ⟨j, w⟩ := x
    simp only [o_cl2] at h
    split at h
    · exact ⟨List.mem_cons_of_mem _ (ih h).1, (ih h).2⟩
    · split at h
      · exact ⟨List.mem_cons_of_mem _ (ih h).1, (ih h).2⟩
      · split at h
        · exact ⟨List.mem_cons_of_mem _ (ih h).1, (ih h).2⟩
        · rename_i h1 h2 h3
          rcases List.mem_cons.mp h with e | e
          · subst e; exact ⟨List.mem_cons_self, h1, h2, h3⟩
          · exact ⟨List.mem_cons_of_mem _ (ih e).1, (ih e).2⟩
theorem o_up2_mem {i : Nat} {v : Value} {L : oL} {q : Nat × Value} (h : q ∈ o_up2 i v L) : q = (i, v) ∨ (q ∈ L ∧ ¬ q.1 = i ∧ ¬ q.1 = i + 1 ∧ ¬ (q.1 + 1 = i ∧ o_c2 q.2 = true)) := by
  induction L with
  | nil => simp [o_up2] at h; exact Or.inl h
  | cons x r ih =>
    obtain ⟨j, w⟩ := x
    simp only [o_up2] at h
    split at h
    · rcases List.mem_cons.mp h with e | e
      · exact Or.inl e
      · exact Or.inr ⟨List.mem_cons_of_mem _ (o_cl2_mem e).1, (o_cl2_mem e).2⟩
    · split at h
      · rcases ih h with e | e
        · exact Or.inl e
        · exact Or.inr ⟨List.mem_cons_of_mem _ e.1, e.2⟩
      · split at h
        · rcases ih h with e | e
          · exact Or.inl e
          · exact Or.inr ⟨List.mem_cons_of_mem _ e.1, e.2⟩
        · rename_i h1 h2 h3
          rcases List.mem_cons.mp h with e | e
          · subst e; exact Or.inr ⟨List.mem_cons_self, h1, h2, h3⟩
          · rcases ih e with e | e
            · exact Or.inl e
            · exact Or.inr ⟨List.mem_cons_of_mem _ e.1, e.2⟩
theorem o_has1 {G : oG} {ls : Array Slot} {n i : Nat} {v : Value} {L : oL} (hl : lv_has ls n ((i, o_rl G v) :: (o_rL G L).filter (fun q => !(q.1 == i) && !(q.1 + 1 == i && q.2.category == 2)))) : lv_has ls n (o_rL G (o_up1 i v L)) := by
  refine ⟨hl.1, hl.2.1, fun q hq => ?_⟩
  obtain ⟨x, hx, rfl⟩ := List.mem_map.mp hq
  rcases o_up1_mem hx with e | ⟨e1, e2, e3⟩
  · subst e; exact hl.2.2 _ List.mem_cons_self
  · refine hl.2.2 _ (List.mem_cons_of_mem _ (List.mem_filter.mpr ⟨List.mem_map.mpr ⟨x, e1, rfl⟩, ?_⟩))
    have hc : x.1 + 1 = i → ¬ x.2.category = 2 := fun h5 h6 => e3 ⟨h5, by
      cases hx2 : x.2 <;> rw [hx2] at h6 <;> first | rfl | (simp [Value.category] at h6)⟩
    simp only [o_cat, Bool.and_eq_true, Bool.not_eq_true', beq_eq_false_iff_ne, Bool.and_eq_false_iff, ne_eq]
    refine ⟨e2, ?_⟩
    by_cases h5 : x.1 + 1 = i
    · exact Or.inr (hc h5)
    · exact Or.inl h5
theorem o_has2 {G : oG} {ls : Array Slot} {n i : Nat} {v : Value} {L : oL} (hl : lv_has ls n ((i, o_rl G v) :: (o_rL G L).filter (fun q => !(q.1 == i) && (!(q.1 == i + 1) && !(q.1 + 1 == i && q.2.category == 2))))) : lv_has ls n (o_rL G (o_up2 i v L)) := by
  refine ⟨hl.1, hl.2.1, fun q hq => ?_⟩
  obtain ⟨x, hx, rfl⟩ := List.mem_map.mp hq
  rcases o_up2_mem hx with e | ⟨e1, e2, e4, e3⟩
  · subst e; exact hl.2.2 _ List.mem_cons_self
  · refine hl.2.2 _ (List.mem_cons_of_mem _ (List.mem_filter.mpr ⟨List.mem_map.mpr ⟨x, e1, rfl⟩, ?_⟩))
    have hc : x.1 + 1 = i → ¬ x.2.category = 2 := fun h5 h6 => e3 ⟨h5, by
      cases hx2 : x.2 <;> rw [hx2] at h6 <;> first | rfl | (simp [Value.category] at h6)⟩
    simp only [o_cat, Bool.and_eq_true, Bool.not_eq_true', beq_eq_false_iff_ne, Bool.and_eq_false_iff, ne_eq]
    refine ⟨e2, e4, ?_⟩
    by_cases h5 : x.1 + 1 = i
    · exact Or.inr (hc h5)
    · exact Or.inl h5
section OI
variable {G : oG} {M : oM} {Post : oP} {pc : Nat} {K Kt Kf : oK}

def o_iconst (v : Int32) (K : oK) : oK := fun c s L st h => K c s L (.int v :: st) h
def o_lconst (v : Int64) (K : oK) : oK := fun c s L st h => K c s L (.long v :: st) h
theorem so_iconst {n : Int} {v : Int32} (hd : decode (mC M) pc = .ok (.iconst n, 1)) (hv : Int32.ofInt n = v) (k : oS G M Post (pc + 1) K) : oS G M Post pc (o_iconst v K) := by
  intro c s L st h hk p e R s0 m args below meth cd Q H locs cells slots ls hE hW hc hs hl
  exact lv_iconst hE.1 hE.2.1 hd hv (k _ _ _ _ _ hk p e R s0 m args below meth cd Q H locs cells slots ls hE hW hc hs hl)
theorem so_bipush {n : Int} {v : Int32} (hd : decode (mC M) pc = .ok (.bipush n, 2)) (hv : (Int8.ofInt n).toInt32 = v) (k : oS G M Post (pc + 2) K) : oS G M Post pc (o_iconst v K) := by
  intro c s L st h hk p e R s0 m args below meth cd Q H locs cells slots ls hE hW hc hs hl
  exact lv_bipush hE.1 hE.2.1 hd hv (k _ _ _ _ _ hk p e R s0 m args below meth cd Q H locs cells slots ls hE hW hc hs hl)
theorem so_sipush {n : Int} {v : Int32} (hd : decode (mC M) pc = .ok (.sipush n, 3)) (hv : (Int16.ofInt n).toInt32 = v) (k : oS G M Post (pc + 3) K) : oS G M Post pc (o_iconst v K) := by
  intro c s L st h hk p e R s0 m args below meth cd Q H locs cells slots ls hE hW hc hs hl
  exact lv_sipush hE.1 hE.2.1 hd hv (k _ _ _ _ _ hk p e R s0 m args below meth cd Q H locs cells slots ls hE hW hc hs hl)
theorem so_lconst {n : Fin 2} {v : Int64} (hd : decode (mC M) pc = .ok (.lconst n, 1)) (hv : Int64.ofNat (n : Nat) = v) (k : oS G M Post (pc + 1) K) : oS G M Post pc (o_lconst v K) := by
  intro c s L st h hk p e R s0 m args below meth cd Q H locs cells slots ls hE hW hc hs hl
  exact lv_lconst hE.1 hE.2.1 hd hv (k _ _ _ _ _ hk p e R s0 m args below meth cd Q H locs cells slots ls hE hW hc hs hl)
theorem so_ldc {index : Nat} {v : Int32} (hw : Cond.constant (mY M).cls index v ∈ o_TT) (hd : decode (mC M) pc = .ok (.ldc index, 2)) (k : oS G M Post (pc + 2) K) : oS G M Post pc (o_iconst v K) := by
  intro c s L st h hk p e R s0 m args below meth cd Q H locs cells slots ls hE hW hc hs hl
  exact lv_ldc hE.1 hE.2.1 hE.2.2.2.1 (hE.2.2.2.2.2.1 _ hw) hd (k _ _ _ _ _ hk p e R s0 m args below meth cd Q H locs cells slots ls hE hW hc hs hl)
theorem so_ldc2 {index : Nat} {v : Int64} (hw : Cond.constantLong (mY M).cls index v ∈ o_TT) (hd : decode (mC M) pc = .ok (.ldc2_w index, 3)) (k : oS G M Post (pc + 3) K) : oS G M Post pc (o_lconst v K) := by
  intro c s L st h hk p e R s0 m args below meth cd Q H locs cells slots ls hE hW hc hs hl
  exact lv_ldc2 hE.1 hE.2.1 hE.2.2.2.1 (hE.2.2.2.2.2.1 _ hw) hd (k _ _ _ _ _ hk p e R s0 m args below meth cd Q H locs cells slots ls hE hW hc hs hl)
def o_iload (n : Nat) (K : oK) : oK := fun c s L st h => match o_lk L n with
  | some (.int x) => K c s L (.int x :: st) h
  | _ => False
theorem so_iload {n : Nat} (hd : decode (mC M) pc = .ok (.iload n, 2)) (k : oS G M Post (pc + 2) K) : oS G M Post pc (o_iload n K) := by
  intro c s L st h hk
  unfold o_iload at hk
  split at hk
  · rename_i x hx
    intro p e R s0 m args below meth cd Q H locs cells slots ls hE hW hc hs hl
    exact lv_iload hE.1 hE.2.1 hd (o_at hl hx) (k _ _ _ _ _ hk p e R s0 m args below meth cd Q H locs cells slots ls hE hW hc hs hl)
  · exact hk.elim
theorem so_iload_n {n : Nat} {j : Fin 4} (hd : decode (mC M) pc = .ok (.iload_n j, 1)) (hj : (j : Nat) = n) (k : oS G M Post (pc + 1) K) : oS G M Post pc (o_iload n K) := by
  intro c s L st h hk
  unfold o_iload at hk
  split at hk
  · rename_i x hx
    intro p e R s0 m args below meth cd Q H locs cells slots ls hE hW hc hs hl
    exact lv_iload_n hE.1 hE.2.1 hd hj (o_at hl hx) (k _ _ _ _ _ hk p e R s0 m args below meth cd Q H locs cells slots ls hE hW hc hs hl)
  · exact hk.elim
def o_lload (n : Nat) (K : oK) : oK := fun c s L st h => match o_lk L n with
  | some (.long x) => K c s L (.long x :: st) h
  | _ => False
theorem so_lload {n : Nat} (hd : decode (mC M) pc = .ok (.lload n, 2)) (k : oS G M Post (pc + 2) K) : oS G M Post pc (o_lload n K) := by
  intro c s L st h hk
  unfold o_lload at hk
  split at hk
  · rename_i x hx
    intro p e R s0 m args below meth cd Q H locs cells slots ls hE hW hc hs hl
    exact lv_lload hE.1 hE.2.1 hd (o_at hl hx) (k _ _ _ _ _ hk p e R s0 m args below meth cd Q H locs cells slots ls hE hW hc hs hl)
  · exact hk.elim
theorem so_lload_n {n : Nat} {j : Fin 4} (hd : decode (mC M) pc = .ok (.lload_n j, 1)) (hj : (j : Nat) = n) (k : oS G M Post (pc + 1) K) : oS G M Post pc (o_lload n K) := by
  intro c s L st h hk
  unfold o_lload at hk
  split at hk
  · rename_i x hx
    intro p e R s0 m args below meth cd Q H locs cells slots ls hE hW hc hs hl
    exact lv_lload_n hE.1 hE.2.1 hd hj (o_at hl hx) (k _ _ _ _ _ hk p e R s0 m args below meth cd Q H locs cells slots ls hE hW hc hs hl)
  · exact hk.elim
def o_aload (n : Nat) (K : oK) : oK := fun c s L st h => match o_lk L n with
  | some (.ref x) => K c s L (.ref x :: st) h
  | _ => False
theorem so_aload {n : Nat} (hd : decode (mC M) pc = .ok (.aload n, 2)) (k : oS G M Post (pc + 2) K) : oS G M Post pc (o_aload n K) := by
  intro c s L st h hk
  unfold o_aload at hk
  split at hk
  · rename_i x hx
    intro p e R s0 m args below meth cd Q H locs cells slots ls hE hW hc hs hl
    exact lv_aload hE.1 hE.2.1 hd (o_at hl hx) (k _ _ _ _ _ hk p e R s0 m args below meth cd Q H locs cells slots ls hE hW hc hs hl)
  · exact hk.elim
theorem so_aload_n {n : Nat} {j : Fin 4} (hd : decode (mC M) pc = .ok (.aload_n j, 1)) (hj : (j : Nat) = n) (k : oS G M Post (pc + 1) K) : oS G M Post pc (o_aload n K) := by
  intro c s L st h hk
  unfold o_aload at hk
  split at hk
  · rename_i x hx
    intro p e R s0 m args below meth cd Q H locs cells slots ls hE hW hc hs hl
    exact lv_aload_n hE.1 hE.2.1 hd hj (o_at hl hx) (k _ _ _ _ _ hk p e R s0 m args below meth cd Q H locs cells slots ls hE hW hc hs hl)
  · exact hk.elim
def o_istore (n : Nat) (K : oK) : oK := fun c s L st h => match st with
  | .int x :: r => K c s (o_up1 n (.int x) L) r h
  | _ => False
theorem so_istore {n : Nat} (hd : decode (mC M) pc = .ok (.istore n, 2)) (hn : n < mL M) (k : oS G M Post (pc + 2) K) : oS G M Post pc (o_istore n K) := by
  intro c s L st h hk
  unfold o_istore at hk
  split at hk
  · intro p e R s0 m args below meth cd Q H locs cells slots ls hE hW hc hs hl
    exact lv_istore hE.1 hE.2.1 hd hl hn rfl (fun ls' hl' => k _ _ _ _ _ hk p e R s0 m args below meth cd Q H locs cells slots ls' hE hW hc hs (o_has1 hl'))
  · exact hk.elim
theorem so_istore_n {n : Nat} {j : Fin 4} (hd : decode (mC M) pc = .ok (.istore_n j, 1)) (hj : (j : Nat) = n) (hn : n < mL M) (k : oS G M Post (pc + 1) K) : oS G M Post pc (o_istore n K) := by
  intro c s L st h hk
  unfold o_istore at hk
  split at hk
  · intro p e R s0 m args below meth cd Q H locs cells slots ls hE hW hc hs hl
    exact lv_istore_n hE.1 hE.2.1 hd hj hl hn rfl (fun ls' hl' => k _ _ _ _ _ hk p e R s0 m args below meth cd Q H locs cells slots ls' hE hW hc hs (o_has1 hl'))
  · exact hk.elim
def o_lstore (n : Nat) (K : oK) : oK := fun c s L st h => match st with
  | .long x :: r => K c s (o_up2 n (.long x) L) r h
  | _ => False
theorem so_lstore {n : Nat} (hd : decode (mC M) pc = .ok (.lstore n, 2)) (hn : n + 1 < mL M) (k : oS G M Post (pc + 2) K) : oS G M Post pc (o_lstore n K) := by
  intro c s L st h hk
  unfold o_lstore at hk
  split at hk
  · intro p e R s0 m args below meth cd Q H locs cells slots ls hE hW hc hs hl
    exact lv_lstore hE.1 hE.2.1 hd hl hn rfl (fun ls' hl' => k _ _ _ _ _ hk p e R s0 m args below meth cd Q H locs cells slots ls' hE hW hc hs (o_has2 hl'))
  · exact hk.elim
theorem so_lstore_n {n : Nat} {j : Fin 4} (hd : decode (mC M) pc = .ok (.lstore_n j, 1)) (hj : (j : Nat) = n) (hn : n + 1 < mL M) (k : oS G M Post (pc + 1) K) : oS G M Post pc (o_lstore n K) := by
  intro c s L st h hk
  unfold o_lstore at hk
  split at hk
  · intro p e R s0 m args below meth cd Q H locs cells slots ls hE hW hc hs hl
    exact lv_lstore_n hE.1 hE.2.1 hd hj hl hn rfl (fun ls' hl' => k _ _ _ _ _ hk p e R s0 m args below meth cd Q H locs cells slots ls' hE hW hc hs (o_has2 hl'))
  · exact hk.elim
def o_astore (n : Nat) (K : oK) : oK := fun c s L st h => match st with
  | .ref x :: r => K c s (o_up1 n (.ref x) L) r h
  | _ => False
theorem so_astore {n : Nat} (hd : decode (mC M) pc = .ok (.astore n, 2)) (hn : n < mL M) (k : oS G M Post (pc + 2) K) : oS G M Post pc (o_astore n K) := by
  intro c s L st h hk
  unfold o_astore at hk
  split at hk
  · intro p e R s0 m args below meth cd Q H locs cells slots ls hE hW hc hs hl
    exact lv_astore hE.1 hE.2.1 hd hl hn rfl (fun ls' hl' => k _ _ _ _ _ hk p e R s0 m args below meth cd Q H locs cells slots ls' hE hW hc hs (o_has1 hl'))
  · exact hk.elim
theorem so_astore_n {n : Nat} {j : Fin 4} (hd : decode (mC M) pc = .ok (.astore_n j, 1)) (hj : (j : Nat) = n) (hn : n < mL M) (k : oS G M Post (pc + 1) K) : oS G M Post pc (o_astore n K) := by
  intro c s L st h hk
  unfold o_astore at hk
  split at hk
  · intro p e R s0 m args below meth cd Q H locs cells slots ls hE hW hc hs hl
    exact lv_astore_n hE.1 hE.2.1 hd hj hl hn rfl (fun ls' hl' => k _ _ _ _ _ hk p e R s0 m args below meth cd Q H locs cells slots ls' hE hW hc hs (o_has1 hl'))
  · exact hk.elim
def o_iinc (n : Nat) (d : Int32) (K : oK) : oK := fun c s L st h => match o_lk L n with
  | some (.int x) => K c s (o_up1 n (.int (x + d)) L) st h
  | _ => False
theorem so_iinc {n : Nat} {z : Int} {d : Int32} (hd : decode (mC M) pc = .ok (.iinc n z, 3)) (hz : Int32.ofInt z = d) (hn : n < mL M) (k : oS G M Post (pc + 3) K) : oS G M Post pc (o_iinc n d K) := by
  intro c s L st h hk
  unfold o_iinc at hk
  split at hk
  · rename_i x hx
    intro p e R s0 m args below meth cd Q H locs cells slots ls hE hW hc hs hl
    have hm : (n, Value.int x) ∈ o_rL G L := List.mem_map.mpr ⟨(n, .int x), o_lk_mem hx, rfl⟩
    obtain ⟨j, hj⟩ := List.getElem?_of_mem hm
    exact lv_iinc hE.1 hE.2.1 hd hl hj (by rw [hz]) hn rfl (fun ls' hl' => k _ _ _ _ _ hk p e R s0 m args below meth cd Q H locs cells slots ls' hE hW hc hs (o_has1 hl'))
  · exact hk.elim
def o_iadd (K : oK) : oK := fun c s L st h => match st with
  | .int y :: .int x :: r => K c s L (.int (x + y) :: r) h
  | _ => False
theorem so_iadd (hd : decode (mC M) pc = .ok (.iadd, 1)) (k : oS G M Post (pc + 1) K) : oS G M Post pc (o_iadd K) := by
  intro c s L st h hk
  unfold o_iadd at hk
  split at hk
  · intro p e R s0 m args below meth cd Q H locs cells slots ls hE hW hc hs hl
    exact lv_iadd hE.1 hE.2.1 hd (k _ _ _ _ _ hk p e R s0 m args below meth cd Q H locs cells slots ls hE hW hc hs hl)
  · exact hk.elim
def o_isub (K : oK) : oK := fun c s L st h => match st with
  | .int y :: .int x :: r => K c s L (.int (x - y) :: r) h
  | _ => False
theorem so_isub (hd : decode (mC M) pc = .ok (.isub, 1)) (k : oS G M Post (pc + 1) K) : oS G M Post pc (o_isub K) := by
  intro c s L st h hk
  unfold o_isub at hk
  split at hk
  · intro p e R s0 m args below meth cd Q H locs cells slots ls hE hW hc hs hl
    exact lv_isub hE.1 hE.2.1 hd (k _ _ _ _ _ hk p e R s0 m args below meth cd Q H locs cells slots ls hE hW hc hs hl)
  · exact hk.elim
def o_imul (K : oK) : oK := fun c s L st h => match st with
  | .int y :: .int x :: r => K c s L (.int (x * y) :: r) h
  | _ => False
theorem so_imul (hd : decode (mC M) pc = .ok (.imul, 1)) (k : oS G M Post (pc + 1) K) : oS G M Post pc (o_imul K) := by
  intro c s L st h hk
  unfold o_imul at hk
  split at hk
  · intro p e R s0 m args below meth cd Q H locs cells slots ls hE hW hc hs hl
    exact lv_imul hE.1 hE.2.1 hd (k _ _ _ _ _ hk p e R s0 m args below meth cd Q H locs cells slots ls hE hW hc hs hl)
  · exact hk.elim
def o_iand (K : oK) : oK := fun c s L st h => match st with
  | .int y :: .int x :: r => K c s L (.int (x &&& y) :: r) h
  | _ => False
theorem so_iand (hd : decode (mC M) pc = .ok (.iand, 1)) (k : oS G M Post (pc + 1) K) : oS G M Post pc (o_iand K) := by
  intro c s L st h hk
  unfold o_iand at hk
  split at hk
  · intro p e R s0 m args below meth cd Q H locs cells slots ls hE hW hc hs hl
    exact lv_iand hE.1 hE.2.1 hd (k _ _ _ _ _ hk p e R s0 m args below meth cd Q H locs cells slots ls hE hW hc hs hl)
  · exact hk.elim
def o_ior (K : oK) : oK := fun c s L st h => match st with
  | .int y :: .int x :: r => K c s L (.int (x ||| y) :: r) h
  | _ => False
theorem so_ior (hd : decode (mC M) pc = .ok (.ior, 1)) (k : oS G M Post (pc + 1) K) : oS G M Post pc (o_ior K) := by
  intro c s L st h hk
  unfold o_ior at hk
  split at hk
  · intro p e R s0 m args below meth cd Q H locs cells slots ls hE hW hc hs hl
    exact lv_ior hE.1 hE.2.1 hd (k _ _ _ _ _ hk p e R s0 m args below meth cd Q H locs cells slots ls hE hW hc hs hl)
  · exact hk.elim
def o_ixor (K : oK) : oK := fun c s L st h => match st with
  | .int y :: .int x :: r => K c s L (.int (x ^^^ y) :: r) h
  | _ => False
theorem so_ixor (hd : decode (mC M) pc = .ok (.ixor, 1)) (k : oS G M Post (pc + 1) K) : oS G M Post pc (o_ixor K) := by
  intro c s L st h hk
  unfold o_ixor at hk
  split at hk
  · intro p e R s0 m args below meth cd Q H locs cells slots ls hE hW hc hs hl
    exact lv_ixor hE.1 hE.2.1 hd (k _ _ _ _ _ hk p e R s0 m args below meth cd Q H locs cells slots ls hE hW hc hs hl)
  · exact hk.elim
def o_ishl (K : oK) : oK := fun c s L st h => match st with
  | .int y :: .int x :: r => K c s L (.int (x <<< (y &&& 31)) :: r) h
  | _ => False
theorem so_ishl (hd : decode (mC M) pc = .ok (.ishl, 1)) (k : oS G M Post (pc + 1) K) : oS G M Post pc (o_ishl K) := by
  intro c s L st h hk
  unfold o_ishl at hk
  split at hk
  · intro p e R s0 m args below meth cd Q H locs cells slots ls hE hW hc hs hl
    exact lv_ishl hE.1 hE.2.1 hd (k _ _ _ _ _ hk p e R s0 m args below meth cd Q H locs cells slots ls hE hW hc hs hl)
  · exact hk.elim
def o_ishr (K : oK) : oK := fun c s L st h => match st with
  | .int y :: .int x :: r => K c s L (.int (x >>> (y &&& 31)) :: r) h
  | _ => False
theorem so_ishr (hd : decode (mC M) pc = .ok (.ishr, 1)) (k : oS G M Post (pc + 1) K) : oS G M Post pc (o_ishr K) := by
  intro c s L st h hk
  unfold o_ishr at hk
  split at hk
  · intro p e R s0 m args below meth cd Q H locs cells slots ls hE hW hc hs hl
    exact lv_ishr hE.1 hE.2.1 hd (k _ _ _ _ _ hk p e R s0 m args below meth cd Q H locs cells slots ls hE hW hc hs hl)
  · exact hk.elim
def o_idiv (K : oK) : oK := fun c s L st h => match st with
  | .int y :: .int x :: r => (¬ y = 0) ∧ K c s L (.int (x / y) :: r) h
  | _ => False
theorem so_idiv (hd : decode (mC M) pc = .ok (.idiv, 1)) (k : oS G M Post (pc + 1) K) : oS G M Post pc (o_idiv K) := by
  intro c s L st h hk
  unfold o_idiv at hk
  split at hk
  · intro p e R s0 m args below meth cd Q H locs cells slots ls hE hW hc hs hl
    exact lv_idiv hE.1 hE.2.1 hd hk.1 (k _ _ _ _ _ hk.2 p e R s0 m args below meth cd Q H locs cells slots ls hE hW hc hs hl)
  · exact hk.elim
def o_irem (K : oK) : oK := fun c s L st h => match st with
  | .int y :: .int x :: r => (¬ y = 0) ∧ K c s L (.int (x - x / y * y) :: r) h
  | _ => False
theorem so_irem (hd : decode (mC M) pc = .ok (.irem, 1)) (k : oS G M Post (pc + 1) K) : oS G M Post pc (o_irem K) := by
  intro c s L st h hk
  unfold o_irem at hk
  split at hk
  · intro p e R s0 m args below meth cd Q H locs cells slots ls hE hW hc hs hl
    exact lv_irem hE.1 hE.2.1 hd hk.1 (k _ _ _ _ _ hk.2 p e R s0 m args below meth cd Q H locs cells slots ls hE hW hc hs hl)
  · exact hk.elim
def o_ladd (K : oK) : oK := fun c s L st h => match st with
  | .long y :: .long x :: r => K c s L (.long (x + y) :: r) h
  | _ => False
theorem so_ladd (hd : decode (mC M) pc = .ok (.ladd, 1)) (k : oS G M Post (pc + 1) K) : oS G M Post pc (o_ladd K) := by
  intro c s L st h hk
  unfold o_ladd at hk
  split at hk
  · intro p e R s0 m args below meth cd Q H locs cells slots ls hE hW hc hs hl
    exact lv_ladd hE.1 hE.2.1 hd (k _ _ _ _ _ hk p e R s0 m args below meth cd Q H locs cells slots ls hE hW hc hs hl)
  · exact hk.elim
def o_land (K : oK) : oK := fun c s L st h => match st with
  | .long y :: .long x :: r => K c s L (.long (x &&& y) :: r) h
  | _ => False
theorem so_land (hd : decode (mC M) pc = .ok (.land, 1)) (k : oS G M Post (pc + 1) K) : oS G M Post pc (o_land K) := by
  intro c s L st h hk
  unfold o_land at hk
  split at hk
  · intro p e R s0 m args below meth cd Q H locs cells slots ls hE hW hc hs hl
    exact lv_land hE.1 hE.2.1 hd (k _ _ _ _ _ hk p e R s0 m args below meth cd Q H locs cells slots ls hE hW hc hs hl)
  · exact hk.elim
def o_lor (K : oK) : oK := fun c s L st h => match st with
  | .long y :: .long x :: r => K c s L (.long (x ||| y) :: r) h
  | _ => False
theorem so_lor (hd : decode (mC M) pc = .ok (.lor, 1)) (k : oS G M Post (pc + 1) K) : oS G M Post pc (o_lor K) := by
  intro c s L st h hk
  unfold o_lor at hk
  split at hk
  · intro p e R s0 m args below meth cd Q H locs cells slots ls hE hW hc hs hl
    exact lv_lor hE.1 hE.2.1 hd (k _ _ _ _ _ hk p e R s0 m args below meth cd Q H locs cells slots ls hE hW hc hs hl)
  · exact hk.elim
def o_lushr (K : oK) : oK := fun c s L st h => match st with
  | .int y :: .long x :: r => K c s L (.long (x.toUInt64 >>> (y.toInt64.toUInt64 &&& Int64.toUInt64 63)).toInt64 :: r) h
  | _ => False
theorem so_lushr (hd : decode (mC M) pc = .ok (.lushr, 1)) (k : oS G M Post (pc + 1) K) : oS G M Post pc (o_lushr K) := by
  intro c s L st h hk
  unfold o_lushr at hk
  split at hk
  · intro p e R s0 m args below meth cd Q H locs cells slots ls hE hW hc hs hl
    exact lv_lushr hE.1 hE.2.1 hd rfl (k _ _ _ _ _ hk p e R s0 m args below meth cd Q H locs cells slots ls hE hW hc hs hl)
  · exact hk.elim
def o_lshl (K : oK) : oK := fun c s L st h => match st with
  | .int y :: .long x :: r => K c s L (.long (x <<< (y.toInt64 &&& 63)) :: r) h
  | _ => False
theorem so_lshl (hd : decode (mC M) pc = .ok (.lshl, 1)) (k : oS G M Post (pc + 1) K) : oS G M Post pc (o_lshl K) := by
  intro c s L st h hk
  unfold o_lshl at hk
  split at hk
  · intro p e R s0 m args below meth cd Q H locs cells slots ls hE hW hc hs hl
    exact lv_lshl hE.1 hE.2.1 hd rfl (k _ _ _ _ _ hk p e R s0 m args below meth cd Q H locs cells slots ls hE hW hc hs hl)
  · exact hk.elim
def o_i2l (K : oK) : oK := fun c s L st h => match st with
  | .int x :: r => K c s L (.long x.toInt64 :: r) h
  | _ => False
theorem so_i2l (hd : decode (mC M) pc = .ok (.i2l, 1)) (k : oS G M Post (pc + 1) K) : oS G M Post pc (o_i2l K) := by
  intro c s L st h hk
  unfold o_i2l at hk
  split at hk
  · intro p e R s0 m args below meth cd Q H locs cells slots ls hE hW hc hs hl
    exact lv_i2l hE.1 hE.2.1 hd rfl (k _ _ _ _ _ hk p e R s0 m args below meth cd Q H locs cells slots ls hE hW hc hs hl)
  · exact hk.elim
def o_l2i (K : oK) : oK := fun c s L st h => match st with
  | .long x :: r => K c s L (.int x.toInt32 :: r) h
  | _ => False
theorem so_l2i (hd : decode (mC M) pc = .ok (.l2i, 1)) (k : oS G M Post (pc + 1) K) : oS G M Post pc (o_l2i K) := by
  intro c s L st h hk
  unfold o_l2i at hk
  split at hk
  · intro p e R s0 m args below meth cd Q H locs cells slots ls hE hW hc hs hl
    exact lv_l2i hE.1 hE.2.1 hd rfl (k _ _ _ _ _ hk p e R s0 m args below meth cd Q H locs cells slots ls hE hW hc hs hl)
  · exact hk.elim
def o_lcmp (K : oK) : oK := fun c s L st h => match st with
  | .long y :: .long x :: r => K c s L (.int (lg_cmp x y) :: r) h
  | _ => False
theorem so_lcmp (hd : decode (mC M) pc = .ok (.lcmp, 1)) (k : oS G M Post (pc + 1) K) : oS G M Post pc (o_lcmp K) := by
  intro c s L st h hk
  unfold o_lcmp at hk
  split at hk
  · intro p e R s0 m args below meth cd Q H locs cells slots ls hE hW hc hs hl
    exact W.lcmp hE.1 hE.2.1 hd (k _ _ _ _ _ hk p e R s0 m args below meth cd Q H locs cells slots ls hE hW hc hs hl)
  · exact hk.elim
def o_dup (K : oK) : oK := fun c s L st h => match st with
  | va :: r => o_c2 va = false ∧ K c s L (va :: va :: r) h
  | _ => False
theorem so_dup (hd : decode (mC M) pc = .ok (.dup, 1)) (k : oS G M Post (pc + 1) K) : oS G M Post pc (o_dup K) := by
  intro c s L st h hk
  unfold o_dup at hk
  split at hk
  · intro p e R s0 m args below meth cd Q H locs cells slots ls hE hW hc hs hl
    exact lv_dup hE.1 hE.2.1 hd ((o_cat G _).trans (o_c2_1 hk.1)) (k _ _ _ _ _ hk.2 p e R s0 m args below meth cd Q H locs cells slots ls hE hW hc hs hl)
  · exact hk.elim
def o_pop (K : oK) : oK := fun c s L st h => match st with
  | va :: r => o_c2 va = false ∧ K c s L (r) h
  | _ => False
theorem so_pop (hd : decode (mC M) pc = .ok (.pop, 1)) (k : oS G M Post (pc + 1) K) : oS G M Post pc (o_pop K) := by
  intro c s L st h hk
  unfold o_pop at hk
  split at hk
  · intro p e R s0 m args below meth cd Q H locs cells slots ls hE hW hc hs hl
    exact lv_pop hE.1 hE.2.1 hd ((o_cat G _).trans (o_c2_1 hk.1)) (k _ _ _ _ _ hk.2 p e R s0 m args below meth cd Q H locs cells slots ls hE hW hc hs hl)
  · exact hk.elim
def o_dup_x1 (K : oK) : oK := fun c s L st h => match st with
  | va :: vb :: r => o_c2 va = false ∧ o_c2 vb = false ∧ K c s L (va :: vb :: va :: r) h
  | _ => False
theorem so_dup_x1 (hd : decode (mC M) pc = .ok (.dup_x1, 1)) (k : oS G M Post (pc + 1) K) : oS G M Post pc (o_dup_x1 K) := by
  intro c s L st h hk
  unfold o_dup_x1 at hk
  split at hk
  · intro p e R s0 m args below meth cd Q H locs cells slots ls hE hW hc hs hl
    exact lv_dup_x1 hE.1 hE.2.1 hd ((o_cat G _).trans (o_c2_1 hk.1)) ((o_cat G _).trans (o_c2_1 hk.2.1)) (k _ _ _ _ _ hk.2.2 p e R s0 m args below meth cd Q H locs cells slots ls hE hW hc hs hl)
  · exact hk.elim
def o_dup_x2 (K : oK) : oK := fun c s L st h => match st with
  | va :: vb :: vd :: r => o_c2 va = false ∧ o_c2 vb = false ∧ o_c2 vd = false ∧ K c s L (va :: vb :: vd :: va :: r) h
  | _ => False
theorem so_dup_x2 (hd : decode (mC M) pc = .ok (.dup_x2, 1)) (k : oS G M Post (pc + 1) K) : oS G M Post pc (o_dup_x2 K) := by
  intro c s L st h hk
  unfold o_dup_x2 at hk
  split at hk
  · intro p e R s0 m args below meth cd Q H locs cells slots ls hE hW hc hs hl
    exact lv_dup_x2 hE.1 hE.2.1 hd ((o_cat G _).trans (o_c2_1 hk.1)) ((o_cat G _).trans (o_c2_1 hk.2.1)) ((o_cat G _).trans (o_c2_1 hk.2.2.1)) (k _ _ _ _ _ hk.2.2.2 p e R s0 m args below meth cd Q H locs cells slots ls hE hW hc hs hl)
  · exact hk.elim
def o_dup2 (K : oK) : oK := fun c s L st h => match st with
  | va :: vb :: r => o_c2 va = false ∧ o_c2 vb = false ∧ K c s L (va :: vb :: va :: vb :: r) h
  | _ => False
theorem so_dup2 (hd : decode (mC M) pc = .ok (.dup2, 1)) (k : oS G M Post (pc + 1) K) : oS G M Post pc (o_dup2 K) := by
  intro c s L st h hk
  unfold o_dup2 at hk
  split at hk
  · intro p e R s0 m args below meth cd Q H locs cells slots ls hE hW hc hs hl
    exact lv_dup2_11 hE.1 hE.2.1 hd ((o_cat G _).trans (o_c2_1 hk.1)) ((o_cat G _).trans (o_c2_1 hk.2.1)) (k _ _ _ _ _ hk.2.2 p e R s0 m args below meth cd Q H locs cells slots ls hE hW hc hs hl)
  · exact hk.elim
def o_ifeq (Kt Kf : oK) : oK := fun c s L st h => match st with
  | .int x :: r => (x = 0 → Kt c s L r h) ∧ (¬ (x = 0) → Kf c s L r h)
  | _ => False
theorem so_ifeq {off : Int} {tgt : Nat} (hd : decode (mC M) pc = .ok (.ifCond .eq off, 3)) (ht : (pc : Int) + off = (tgt : Int)) (kt : oS G M Post tgt Kt) (kf : oS G M Post (pc + 3) Kf) : oS G M Post pc (o_ifeq Kt Kf) := by
  intro c s L st h hk
  unfold o_ifeq at hk
  split at hk
  · intro p e R s0 m args below meth cd Q H locs cells slots ls hE hW hc hs hl
    exact lv_if_eq hE.1 hE.2.1 hd ht (fun q => kt _ _ _ _ _ (hk.1 q) p e R s0 m args below meth cd Q H locs cells slots ls hE hW hc hs hl) (fun q => kf _ _ _ _ _ (hk.2 q) p e R s0 m args below meth cd Q H locs cells slots ls hE hW hc hs hl)
  · exact hk.elim
def o_icmpeq (Kt Kf : oK) : oK := fun c s L st h => match st with
  | .int y :: .int x :: r => (x = y → Kt c s L r h) ∧ (¬ (x = y) → Kf c s L r h)
  | _ => False
theorem so_icmpeq {off : Int} {tgt : Nat} (hd : decode (mC M) pc = .ok (.if_icmp .eq off, 3)) (ht : (pc : Int) + off = (tgt : Int)) (kt : oS G M Post tgt Kt) (kf : oS G M Post (pc + 3) Kf) : oS G M Post pc (o_icmpeq Kt Kf) := by
  intro c s L st h hk
  unfold o_icmpeq at hk
  split at hk
  · intro p e R s0 m args below meth cd Q H locs cells slots ls hE hW hc hs hl
    exact lv_icmp_eq hE.1 hE.2.1 hd ht (fun q => kt _ _ _ _ _ (hk.1 q) p e R s0 m args below meth cd Q H locs cells slots ls hE hW hc hs hl) (fun q => kf _ _ _ _ _ (hk.2 q) p e R s0 m args below meth cd Q H locs cells slots ls hE hW hc hs hl)
  · exact hk.elim
def o_ifne (Kt Kf : oK) : oK := fun c s L st h => match st with
  | .int x :: r => (¬ x = 0 → Kt c s L r h) ∧ (x = 0 → Kf c s L r h)
  | _ => False
theorem so_ifne {off : Int} {tgt : Nat} (hd : decode (mC M) pc = .ok (.ifCond .ne off, 3)) (ht : (pc : Int) + off = (tgt : Int)) (kt : oS G M Post tgt Kt) (kf : oS G M Post (pc + 3) Kf) : oS G M Post pc (o_ifne Kt Kf) := by
  intro c s L st h hk
  unfold o_ifne at hk
  split at hk
  · intro p e R s0 m args below meth cd Q H locs cells slots ls hE hW hc hs hl
    exact lv_if_ne hE.1 hE.2.1 hd ht (fun q => kt _ _ _ _ _ (hk.1 q) p e R s0 m args below meth cd Q H locs cells slots ls hE hW hc hs hl) (fun q => kf _ _ _ _ _ (hk.2 q) p e R s0 m args below meth cd Q H locs cells slots ls hE hW hc hs hl)
  · exact hk.elim
def o_icmpne (Kt Kf : oK) : oK := fun c s L st h => match st with
  | .int y :: .int x :: r => (¬ x = y → Kt c s L r h) ∧ (x = y → Kf c s L r h)
  | _ => False
theorem so_icmpne {off : Int} {tgt : Nat} (hd : decode (mC M) pc = .ok (.if_icmp .ne off, 3)) (ht : (pc : Int) + off = (tgt : Int)) (kt : oS G M Post tgt Kt) (kf : oS G M Post (pc + 3) Kf) : oS G M Post pc (o_icmpne Kt Kf) := by
  intro c s L st h hk
  unfold o_icmpne at hk
  split at hk
  · intro p e R s0 m args below meth cd Q H locs cells slots ls hE hW hc hs hl
    exact lv_icmp_ne hE.1 hE.2.1 hd ht (fun q => kt _ _ _ _ _ (hk.1 q) p e R s0 m args below meth cd Q H locs cells slots ls hE hW hc hs hl) (fun q => kf _ _ _ _ _ (hk.2 q) p e R s0 m args below meth cd Q H locs cells slots ls hE hW hc hs hl)
  · exact hk.elim
def o_iflt (Kt Kf : oK) : oK := fun c s L st h => match st with
  | .int x :: r => (x < 0 → Kt c s L r h) ∧ (¬ (x < 0) → Kf c s L r h)
  | _ => False
theorem so_iflt {off : Int} {tgt : Nat} (hd : decode (mC M) pc = .ok (.ifCond .lt off, 3)) (ht : (pc : Int) + off = (tgt : Int)) (kt : oS G M Post tgt Kt) (kf : oS G M Post (pc + 3) Kf) : oS G M Post pc (o_iflt Kt Kf) := by
  intro c s L st h hk
  unfold o_iflt at hk
  split at hk
  · intro p e R s0 m args below meth cd Q H locs cells slots ls hE hW hc hs hl
    exact lv_if_lt hE.1 hE.2.1 hd ht (fun q => kt _ _ _ _ _ (hk.1 q) p e R s0 m args below meth cd Q H locs cells slots ls hE hW hc hs hl) (fun q => kf _ _ _ _ _ (hk.2 q) p e R s0 m args below meth cd Q H locs cells slots ls hE hW hc hs hl)
  · exact hk.elim
def o_icmplt (Kt Kf : oK) : oK := fun c s L st h => match st with
  | .int y :: .int x :: r => (x < y → Kt c s L r h) ∧ (¬ (x < y) → Kf c s L r h)
  | _ => False
theorem so_icmplt {off : Int} {tgt : Nat} (hd : decode (mC M) pc = .ok (.if_icmp .lt off, 3)) (ht : (pc : Int) + off = (tgt : Int)) (kt : oS G M Post tgt Kt) (kf : oS G M Post (pc + 3) Kf) : oS G M Post pc (o_icmplt Kt Kf) := by
  intro c s L st h hk
  unfold o_icmplt at hk
  split at hk
  · intro p e R s0 m args below meth cd Q H locs cells slots ls hE hW hc hs hl
    exact lv_icmp_lt hE.1 hE.2.1 hd ht (fun q => kt _ _ _ _ _ (hk.1 q) p e R s0 m args below meth cd Q H locs cells slots ls hE hW hc hs hl) (fun q => kf _ _ _ _ _ (hk.2 q) p e R s0 m args below meth cd Q H locs cells slots ls hE hW hc hs hl)
  · exact hk.elim
def o_ifge (Kt Kf : oK) : oK := fun c s L st h => match st with
  | .int x :: r => (0 ≤ x → Kt c s L r h) ∧ (¬ (0 ≤ x) → Kf c s L r h)
  | _ => False
theorem so_ifge {off : Int} {tgt : Nat} (hd : decode (mC M) pc = .ok (.ifCond .ge off, 3)) (ht : (pc : Int) + off = (tgt : Int)) (kt : oS G M Post tgt Kt) (kf : oS G M Post (pc + 3) Kf) : oS G M Post pc (o_ifge Kt Kf) := by
  intro c s L st h hk
  unfold o_ifge at hk
  split at hk
  · intro p e R s0 m args below meth cd Q H locs cells slots ls hE hW hc hs hl
    exact lv_if_ge hE.1 hE.2.1 hd ht (fun q => kt _ _ _ _ _ (hk.1 q) p e R s0 m args below meth cd Q H locs cells slots ls hE hW hc hs hl) (fun q => kf _ _ _ _ _ (hk.2 q) p e R s0 m args below meth cd Q H locs cells slots ls hE hW hc hs hl)
  · exact hk.elim
def o_icmpge (Kt Kf : oK) : oK := fun c s L st h => match st with
  | .int y :: .int x :: r => (y ≤ x → Kt c s L r h) ∧ (¬ (y ≤ x) → Kf c s L r h)
  | _ => False
theorem so_icmpge {off : Int} {tgt : Nat} (hd : decode (mC M) pc = .ok (.if_icmp .ge off, 3)) (ht : (pc : Int) + off = (tgt : Int)) (kt : oS G M Post tgt Kt) (kf : oS G M Post (pc + 3) Kf) : oS G M Post pc (o_icmpge Kt Kf) := by
  intro c s L st h hk
  unfold o_icmpge at hk
  split at hk
  · intro p e R s0 m args below meth cd Q H locs cells slots ls hE hW hc hs hl
    exact lv_icmp_ge hE.1 hE.2.1 hd ht (fun q => kt _ _ _ _ _ (hk.1 q) p e R s0 m args below meth cd Q H locs cells slots ls hE hW hc hs hl) (fun q => kf _ _ _ _ _ (hk.2 q) p e R s0 m args below meth cd Q H locs cells slots ls hE hW hc hs hl)
  · exact hk.elim
def o_ifgt (Kt Kf : oK) : oK := fun c s L st h => match st with
  | .int x :: r => (0 < x → Kt c s L r h) ∧ (¬ (0 < x) → Kf c s L r h)
  | _ => False
theorem so_ifgt {off : Int} {tgt : Nat} (hd : decode (mC M) pc = .ok (.ifCond .gt off, 3)) (ht : (pc : Int) + off = (tgt : Int)) (kt : oS G M Post tgt Kt) (kf : oS G M Post (pc + 3) Kf) : oS G M Post pc (o_ifgt Kt Kf) := by
  intro c s L st h hk
  unfold o_ifgt at hk
  split at hk
  · intro p e R s0 m args below meth cd Q H locs cells slots ls hE hW hc hs hl
    exact lv_if_gt hE.1 hE.2.1 hd ht (fun q => kt _ _ _ _ _ (hk.1 q) p e R s0 m args below meth cd Q H locs cells slots ls hE hW hc hs hl) (fun q => kf _ _ _ _ _ (hk.2 q) p e R s0 m args below meth cd Q H locs cells slots ls hE hW hc hs hl)
  · exact hk.elim
def o_icmpgt (Kt Kf : oK) : oK := fun c s L st h => match st with
  | .int y :: .int x :: r => (y < x → Kt c s L r h) ∧ (¬ (y < x) → Kf c s L r h)
  | _ => False
theorem so_icmpgt {off : Int} {tgt : Nat} (hd : decode (mC M) pc = .ok (.if_icmp .gt off, 3)) (ht : (pc : Int) + off = (tgt : Int)) (kt : oS G M Post tgt Kt) (kf : oS G M Post (pc + 3) Kf) : oS G M Post pc (o_icmpgt Kt Kf) := by
  intro c s L st h hk
  unfold o_icmpgt at hk
  split at hk
  · intro p e R s0 m args below meth cd Q H locs cells slots ls hE hW hc hs hl
    exact lv_icmp_gt hE.1 hE.2.1 hd ht (fun q => kt _ _ _ _ _ (hk.1 q) p e R s0 m args below meth cd Q H locs cells slots ls hE hW hc hs hl) (fun q => kf _ _ _ _ _ (hk.2 q) p e R s0 m args below meth cd Q H locs cells slots ls hE hW hc hs hl)
  · exact hk.elim
def o_ifle (Kt Kf : oK) : oK := fun c s L st h => match st with
  | .int x :: r => (x ≤ 0 → Kt c s L r h) ∧ (¬ (x ≤ 0) → Kf c s L r h)
  | _ => False
theorem so_ifle {off : Int} {tgt : Nat} (hd : decode (mC M) pc = .ok (.ifCond .le off, 3)) (ht : (pc : Int) + off = (tgt : Int)) (kt : oS G M Post tgt Kt) (kf : oS G M Post (pc + 3) Kf) : oS G M Post pc (o_ifle Kt Kf) := by
  intro c s L st h hk
  unfold o_ifle at hk
  split at hk
  · intro p e R s0 m args below meth cd Q H locs cells slots ls hE hW hc hs hl
    exact lv_if_le hE.1 hE.2.1 hd ht (fun q => kt _ _ _ _ _ (hk.1 q) p e R s0 m args below meth cd Q H locs cells slots ls hE hW hc hs hl) (fun q => kf _ _ _ _ _ (hk.2 q) p e R s0 m args below meth cd Q H locs cells slots ls hE hW hc hs hl)
  · exact hk.elim
def o_icmple (Kt Kf : oK) : oK := fun c s L st h => match st with
  | .int y :: .int x :: r => (x ≤ y → Kt c s L r h) ∧ (¬ (x ≤ y) → Kf c s L r h)
  | _ => False
theorem so_icmple {off : Int} {tgt : Nat} (hd : decode (mC M) pc = .ok (.if_icmp .le off, 3)) (ht : (pc : Int) + off = (tgt : Int)) (kt : oS G M Post tgt Kt) (kf : oS G M Post (pc + 3) Kf) : oS G M Post pc (o_icmple Kt Kf) := by
  intro c s L st h hk
  unfold o_icmple at hk
  split at hk
  · intro p e R s0 m args below meth cd Q H locs cells slots ls hE hW hc hs hl
    exact lv_icmp_le hE.1 hE.2.1 hd ht (fun q => kt _ _ _ _ _ (hk.1 q) p e R s0 m args below meth cd Q H locs cells slots ls hE hW hc hs hl) (fun q => kf _ _ _ _ _ (hk.2 q) p e R s0 m args below meth cd Q H locs cells slots ls hE hW hc hs hl)
  · exact hk.elim
/-- go on at a place that has a row of its own, with these locals -/
def o_jmp (G : oG) (M : oM) (Post : oP) (tgt : Nat) (ks : List Nat) : oK := fun c s L st h => Wp G M Post tgt c s (o_keep ks L) st h
theorem so_jmp {ks : List Nat} : oS G M Post pc (o_jmp G M Post pc ks) := by
  intro c s L st h hk p e R s0 m args below meth cd Q H locs cells slots ls hE hW hc hs hl
  exact hk p e R s0 m args below meth cd Q H locs cells slots ls hE hW hc hs (o_has_sub hl (o_keep_sub ks L))
theorem so_goto {off : Int} {tgt : Nat} (hd : decode (mC M) pc = .ok (.goto off, 3)) (ht : (pc : Int) + off = (tgt : Int)) (k : oS G M Post tgt K) : oS G M Post pc K := by
  intro c s L st h hk p e R s0 m args below meth cd Q H locs cells slots ls hE hW hc hs hl
  exact lv_goto hE.1 hE.2.1 hd ht (k _ _ _ _ _ hk p e R s0 m args below meth cd Q H locs cells slots ls hE hW hc hs hl)
def o_tgt (lo : Int) (ts : List Nat) (dt : Nat) (x : Int32) : Nat := if x.toInt < lo then dt else (ts[(x.toInt - lo).toNat]?).getD dt
def o_tsw (G : oG) (M : oM) (Post : oP) (lo : Int) (ts : List Nat) (dt : Nat) (ks : List Nat) : oK := fun c s L st h => match st with
  | .int x :: r => Wp G M Post (o_tgt lo ts dt x) c s (o_keep ks L) r h
  | _ => False
theorem so_tsw {dflt lo hi : Int} {offs : Array Int} {len : Nat} {ts : List Nat} {dt : Nat} {ks : List Nat} (hd : decode (mC M) pc = .ok (.tableswitch dflt lo hi offs, len)) (h1 : (pc : Int) + dflt = (dt : Int)) (h2 : offs.toList.map (fun o => (pc : Int) + o) = ts.map (fun (t : Nat) => (t : Int))) (h3 : hi - lo + 1 = (ts.length : Int)) : oS G M Post pc (o_tsw G M Post lo ts dt ks) := by
  intro c s L st h hk
  unfold o_tsw at hk
  split at hk
  · rename_i x r
    intro p e R s0 m args below meth cd Q H locs cells slots ls hE hW hc hs hl
    have kk := hk p e R s0 m args below meth cd Q H locs cells slots ls hE hW hc hs (o_has_sub hl (o_keep_sub ks L))
    by_cases hx : x.toInt < lo
    · simp only [o_tgt, if_pos hx] at kk
      exact lv_tableOut hE.1 hE.2.1 hd (Or.inl hx) h1 kk
    · simp only [o_tgt, if_neg hx] at kk
      by_cases hy : hi < x.toInt
      · rw [List.getElem?_eq_none (by omega)] at kk
        exact lv_tableOut hE.1 hE.2.1 hd (Or.inr hy) h1 kk
      · have hlt : (x.toInt - lo).toNat < ts.length := by omega
        have hlo : (x.toInt - lo).toNat < offs.toList.length := by
          have := congrArg List.length h2
          simp only [List.length_map] at this
          omega
        have e1 := congrArg (fun l => l[(x.toInt - lo).toNat]?) h2
        simp only [List.getElem?_map, List.getElem?_eq_getElem hlt, List.getElem?_eq_getElem hlo, Option.map_some, Option.some.injEq] at e1
        rw [List.getElem?_eq_getElem hlt, Option.getD_some] at kk
        exact lv_tableIn hE.1 hE.2.1 hd hx hy (by rw [← Array.getElem?_toList]; exact List.getElem?_eq_getElem hlo) e1 kk
  · exact hk.elim
-- ends
def o_iret (Post : oP) : oK := fun _ _ _ st h => match st with
  | [.int x] => Post (some (.int x)) h
  | _ => False
theorem so_iret (hd : decode (mC M) pc = .ok (.ireturn, 1)) (hr : mR M = some .int) : oS G M Post pc (o_iret Post) := by
  intro c s L st h hk
  unfold o_iret at hk
  split at hk
  · rename_i x
    intro p e R s0 m args below meth cd Q H locs cells slots ls hE hW hc hs hl
    exact hE.2.2.2.2.2.2.2.2.2 (some (.int x)) h H locs ls pc cells slots hk hW (by omega) (by omega) ⟨⟨_, hr, rfl⟩, hd⟩
  · exact hk.elim
def o_zret (Post : oP) : oK := fun _ _ _ st h => match st with
  | [.int x] => (x = 0 ∨ x = 1) ∧ Post (some (.int x)) h
  | _ => False
theorem so_zret (hd : decode (mC M) pc = .ok (.ireturn, 1)) (hr : mR M = some .boolean) : oS G M Post pc (o_zret Post) := by
  intro c s L st h hk
  unfold o_zret at hk
  split at hk
  · rename_i x
    intro p e R s0 m args below meth cd Q H locs cells slots ls hE hW hc hs hl
    exact hE.2.2.2.2.2.2.2.2.2 (some (.int x)) h H locs ls pc cells slots hk.2 hW (by omega) (by omega) ⟨⟨_, hr, by rcases hk.1 with e | e <;> rw [e] <;> rfl⟩, hd⟩
  · exact hk.elim
def o_lret (Post : oP) : oK := fun _ _ _ st h => match st with
  | [.long x] => Post (some (.long x)) h
  | _ => False
theorem so_lret (hd : decode (mC M) pc = .ok (.lreturn, 1)) (hr : mR M = some .long) : oS G M Post pc (o_lret Post) := by
  intro c s L st h hk
  unfold o_lret at hk
  split at hk
  · rename_i x
    intro p e R s0 m args below meth cd Q H locs cells slots ls hE hW hc hs hl
    exact hE.2.2.2.2.2.2.2.2.2 (some (.long x)) h H locs ls pc cells slots hk hW (by omega) (by omega) ⟨hr, hd⟩
  · exact hk.elim
def o_vret (Post : oP) : oK := fun _ _ _ st h => match st with
  | [] => Post none h
  | _ => False
theorem so_vret (hd : decode (mC M) pc = .ok (.return_, 1)) (hr : mR M = none) : oS G M Post pc (o_vret Post) := by
  intro c s L st h hk
  unfold o_vret at hk
  split at hk
  · intro p e R s0 m args below meth cd Q H locs cells slots ls hE hW hc hs hl
    exact hE.2.2.2.2.2.2.2.2.2 none h H locs ls pc cells slots hk hW (by omega) (by omega) ⟨hr, hd⟩
  · exact hk.elim
end OI
end
section
/-! Fields, arrays, new cells, calls. -/
def o_get (h : oH) (v : Value) : Option oE := match v with
  | .ref (a + 1) => h[a]?
  | _ => none
def o_ix (v : Value) : Nat := match v with
  | .ref (a + 1) => a
  | _ => 0
theorem o_get_spec {h : oH} {v : Value} {e : oE} (hg : o_get h v = some e) : ∃ a : Nat, v = .ref (a + 1) ∧ h[a]? = some e := by
  unfold o_get at hg
  split at hg
  · exact ⟨_, rfl, hg⟩
  · cases hg
/-- what the tables say of the objects of number ci -/
def o_Cl (ci : Nat) (C : String) (T : u_T) (N : Nat) (ty : Nat → FieldType) : Prop :=
  o_cl[ci]? = some (C, T, N) ∧ (∀ w ∈ u_ws C T N, w ∈ o_TT) ∧ (∀ k, k < N → parseFieldDescriptor (T k).2.2.1 = some (ty k)) ∧ ∀ a, a < N → ∀ b, b < N → a ≠ b → (T a).2.1 ≠ (T b).2.1
section OW
variable {G : oG} {p : Program} {e : Env} {R : Room} {s : State} {m : MethodId} {args : Array Value} {below : List Frame} {meth : Method} {cd : Code} {H : Heap} {locs : List Loc} {cells slots : Nat} {Q : State → Prop} {ls : Array Slot} {rest : List Value} {own : String} {cc : ByteArray} {h : oH} {ci a k index pc N : Nat} {C : String} {T : u_T} {ty : Nat → FieldType} {fs : List Value} {v : Value}
theorem o_wput (hx : p.tables.exec = Jvm.exec) (hb : cd.code = cc) (hts : ∀ w ∈ o_TT, w.before args s = true) (hown : s.vm.findClass own = some m.cls) (hSf : o_Sf G s) (hC : o_Cl ci C T N ty) (hW : o_Wd G h H locs) (ha : h[a]? = some (.inr (ci, fs))) (hk : k < N) (hlink : (Cond.fieldLink own index (T k).1 (T k).2.1 (T k).2.2.1).before args s = true) (hfin : (T k).2.2.2 = false) (hn : narrow (ty k) (o_rl G v) = o_rl G v) (hfit : fits (ty k) (o_rl G v) = true) (hl : k < fs.length) (hd : decode cc pc = .ok (.putfield index, 3))
    (kk : ∀ (H1 : Heap) (locs1 : List Loc), o_Wd G (h.set a (.inr (ci, fs.set k v))) H1 locs1 → W p (gl G) e R s m args below meth cd H1 locs1 cells slots Q (F0 m (pc + 3) ls rest)) : W p (gl G) e R s m args below meth cd H locs cells slots Q (F0 m pc ls (o_rl G v :: .ref ((gH G).size + a) :: rest)) := by
  have hap := va_apart (own := own) hts hC.2.1 ty hC.2.2.1 hC.2.2.2 hSf.1 hC.1
  obtain ⟨r, h1, cell, q1, q2, q3, q4⟩ := hW.1 a _ (o_ws_at ha)
  have hr : r = (C, T, N) := Option.some.inj (h1.symm.trans hC.1)
  subst hr
  obtain ⟨hS, hfc, kC, hkC, hkind⟩ := hSf.1.1 ci _ hC.1
  obtain ⟨cf, kf, fi, f, hi, hsl⟩ := hS k hk
  have hlay := hts _ (hC.2.1 _ (u_in_lay hk))
  unfold u_lay at hlay
  rw [if_neg (by rw [hfin]; decide)] at hlay
  have hst := (u_facts hfc hkC (u_lays hts hC.2.1 hk) hi).1
  have h6 := u_store hfc hkC hkind hlay hi (hC.2.2.1 k hk) hn hfit
  refine W.putK hx hb (f := f) ⟨hown, hlink, ⟨_, _, _, hi⟩, hst⟩ (by rw [q2]; exact h6) q1 q3 (by rw [hsl]; exact k2_hasslot (q4 k hk)) rfl rfl hd fun H' e1 e2 e3 => ?_
  rw [hsl] at e1 ⊢
  refine kk H' _ (hW.set (e := .inr (ci, fs.set k v)) ha ⟨_, hC.1, t_OB.to (V := updV (vp_V (fs.map (o_rl G))) k (o_rl G v)) ⟨_, e1, q2, q3, t_set q4 hap hk _⟩ (fun j _ => ?_)⟩ e2 e3)
  show _ = vp_V ((fs.set k v).map (o_rl G)) j
  rw [List.map_set]
  exact vp_updV_set (by rw [List.length_map]; exact hl) _ j
theorem o_wputN (hx : p.tables.exec = Jvm.exec) (hb : cd.code = cc) (hts : ∀ w ∈ o_TT, w.before args s = true) (hown : s.vm.findClass own = some m.cls) (hSf : o_Sf G s) (hC : o_Cl ci C T N ty) (hW : o_Wd G h H locs) (ha : h[a]? = some (.inr (ci, fs))) (hk : k < N) {host : String} (hlink : (Cond.fieldLinkNest own index (T k).1 (T k).2.1 (T k).2.2.1 host).before args s = true) (hfin : (T k).2.2.2 = false) (hn : narrow (ty k) (o_rl G v) = o_rl G v) (hfit : fits (ty k) (o_rl G v) = true) (hl : k < fs.length) (hd : decode cc pc = .ok (.putfield index, 3))
    (kk : ∀ (H1 : Heap) (locs1 : List Loc), o_Wd G (h.set a (.inr (ci, fs.set k v))) H1 locs1 → W p (gl G) e R s m args below meth cd H1 locs1 cells slots Q (F0 m (pc + 3) ls rest)) : W p (gl G) e R s m args below meth cd H locs cells slots Q (F0 m pc ls (o_rl G v :: .ref ((gH G).size + a) :: rest)) := by
  have hap := va_apart (own := own) hts hC.2.1 ty hC.2.2.1 hC.2.2.2 hSf.1 hC.1
  obtain ⟨r, h1, cell, q1, q2, q3, q4⟩ := hW.1 a _ (o_ws_at ha)
  have hr : r = (C, T, N) := Option.some.inj (h1.symm.trans hC.1)
  subst hr
  obtain ⟨hS, hfc, kC, hkC, hkind⟩ := hSf.1.1 ci _ hC.1
  obtain ⟨cf, kf, fi, f, hi, hsl⟩ := hS k hk
  have hlay := hts _ (hC.2.1 _ (u_in_lay hk))
  unfold u_lay at hlay
  rw [if_neg (by rw [hfin]; decide)] at hlay
  have hst := (u_facts hfc hkC (u_lays hts hC.2.1 hk) hi).1
  have h6 := u_store hfc hkC hkind hlay hi (hC.2.2.1 k hk) hn hfit
  refine va_WputK hx hb (f := f) hown hlink hi hst (by rw [q2]; exact h6) q1 q3 (by rw [hsl]; exact k2_hasslot (q4 k hk)) rfl rfl hd fun H' e1 e2 e3 => ?_
  rw [hsl] at e1 ⊢
  refine kk H' _ (hW.set (e := .inr (ci, fs.set k v)) ha ⟨_, hC.1, t_OB.to (V := updV (vp_V (fs.map (o_rl G))) k (o_rl G v)) ⟨_, e1, q2, q3, t_set q4 hap hk _⟩ (fun j _ => ?_)⟩ e2 e3)
  show _ = vp_V ((fs.set k v).map (o_rl G)) j
  rw [List.map_set]
  exact vp_updV_set (by rw [List.length_map]; exact hl) _ j
theorem o_wputF (hx : p.tables.exec = Jvm.exec) (hb : cd.code = cc) (hts : ∀ w ∈ o_TT, w.before args s = true) (hown : s.vm.findClass own = some m.cls) (hSf : o_Sf G s) (hC : o_Cl ci C T N ty) (hW : o_Wd G h H locs) (ha : h[a]? = some (.inr (ci, fs))) (hk : k < N) (hlink : (Cond.fieldLink own index (T k).1 (T k).2.1 (T k).2.2.1).before args s = true) (hfin : (T k).2.2.2 = true) (hin2 : meth.name = "<init>") (hdecl : (T k).1 = own) (hn : narrow (ty k) (o_rl G v) = o_rl G v) (hfit : fits (ty k) (o_rl G v) = true) (hl : k < fs.length) (hd : decode cc pc = .ok (.putfield index, 3))
    (kk : ∀ (H1 : Heap) (locs1 : List Loc), o_Wd G (h.set a (.inr (ci, fs.set k v))) H1 locs1 → W p (gl G) e R s m args below meth cd H1 locs1 cells slots Q (F0 m (pc + 3) ls rest)) : W p (gl G) e R s m args below meth cd H locs cells slots Q (F0 m pc ls (o_rl G v :: .ref ((gH G).size + a) :: rest)) := by
  have hap := va_apart (own := own) hts hC.2.1 ty hC.2.2.1 hC.2.2.2 hSf.1 hC.1
  obtain ⟨r, h1, cell, q1, q2, q3, q4⟩ := hW.1 a _ (o_ws_at ha)
  have hr : r = (C, T, N) := Option.some.inj (h1.symm.trans hC.1)
  subst hr
  obtain ⟨hS, hfc, kC, hkC, hkind⟩ := hSf.1.1 ci _ hC.1
  obtain ⟨cf, kf, fi, f, hi, hsl⟩ := hS k hk
  have hlay := hts _ (hC.2.1 _ (u_in_lay hk))
  unfold u_lay at hlay
  rw [if_pos hfin] at hlay
  have hst := (u_facts hfc hkC (u_lays hts hC.2.1 hk) hi).1
  have hcf : m.cls = cf := by
    obtain ⟨_, _, c', _, _, _, -, -, hf', -, -, -, hown2, -⟩ := Cond.laysFinal_spec hlay
    have e1 : c' = cf := by have := hi.symm.trans hf'; simp at this; exact this.1.symm
    rw [hdecl] at hown2
    rw [← e1]; exact Option.some.inj (hown.symm.trans hown2)
  have h6 := u_fits hfc hkC hkind (Or.inr hlay) hi (hC.2.2.1 k hk) hn hfit
  refine W.putFinK hx hb hown hlink hi hst hcf hin2 (by rw [q2]; exact h6) q1 q3 (by rw [hsl]; exact k2_hasslot (q4 k hk)) rfl rfl hd fun H' e1 e2 e3 => ?_
  rw [hsl] at e1 ⊢
  refine kk H' _ (hW.set (e := .inr (ci, fs.set k v)) ha ⟨_, hC.1, t_OB.to (V := updV (vp_V (fs.map (o_rl G))) k (o_rl G v)) ⟨_, e1, q2, q3, t_set q4 hap hk _⟩ (fun j _ => ?_)⟩ e2 e3)
  show _ = vp_V ((fs.set k v).map (o_rl G)) j
  rw [List.map_set]
  exact vp_updV_set (by rw [List.length_map]; exact hl) _ j
theorem o_wiast {n : Nat} {f : Nat → Int32} {i : Int32} {x : Int32} (hx : p.tables.exec = Jvm.exec) (hb : cd.code = cc) (hSf : o_Sf G s) (hW : o_Wd G h H locs) (ha : h[a]? = some (.inl (0, n, .inl f))) (hin : vp_in i n) (hd : decode cc pc = .ok (.iastore, 1))
    (kk : ∀ (H1 : Heap) (locs1 : List Loc), o_Wd G (h.set a (.inl (0, n, .inl (upd f i.toNatClampNeg x)))) H1 locs1 → W p (gl G) e R s m args below meth cd H1 locs1 cells slots Q (F0 m (pc + 1) ls rest)) : W p (gl G) e R s m args below meth cd H locs cells slots Q (F0 m pc ls (.int x :: .int i :: .ref ((gH G).size + a) :: rest)) := by
  refine W.iast hx hb (hW.1 a _ (o_ws_at ha)) ((hSf.1.2 0 _ rfl).1 n (fun j => .int (f j))) (fun q => by cases q) (by show ¬ (i < 0 ∨ (arrV _ _ _).slots.size ≤ _); rw [arrV_size]; exact hin) rfl rfl hd fun H1 e z oq => ?_
  refine kk H1 _ (hW.set (e := .inl (0, n, .inl (upd f i.toNatClampNeg x))) ha ?_ z oq)
  show H1[(gH G).size + a]? = some (vp_cell (gA G 0) (n, .inl (upd f i.toNatClampNeg x)))
  rw [e]
  show some (Cell.setSlot (vp_cell (gA G 0) (n, .inl f)) _ _) = _
  rw [vp_cell_i, vp_cell_i, arrV_store]
  congr 2
  funext q
  by_cases hq : q = i.toNatClampNeg
  · subst hq
    simp [updV, upd]
    try rfl
  · simp [updV, upd, hq]
theorem o_wlast {n : Nat} {f : Nat → Int64} {i : Int32} {x : Int64} (hx : p.tables.exec = Jvm.exec) (hb : cd.code = cc) (hSf : o_Sf G s) (hW : o_Wd G h H locs) (ha : h[a]? = some (.inl (1, n, .inr (.inl f)))) (hin : vp_in i n) (hd : decode cc pc = .ok (.lastore, 1))
    (kk : ∀ (H1 : Heap) (locs1 : List Loc), o_Wd G (h.set a (.inl (1, n, .inr (.inl (vp_updL f i.toNatClampNeg x))))) H1 locs1 → W p (gl G) e R s m args below meth cd H1 locs1 cells slots Q (F0 m (pc + 1) ls rest)) : W p (gl G) e R s m args below meth cd H locs cells slots Q (F0 m pc ls (.long x :: .int i :: .ref ((gH G).size + a) :: rest)) := by
  refine W.last hx hb (hW.1 a _ (o_ws_at ha)) ((hSf.1.2 1 _ rfl).1 n (fun j => .long (f j))) (fun q => by cases q) (by show ¬ (i < 0 ∨ (arrV _ _ _).slots.size ≤ _); rw [arrV_size]; exact hin) rfl rfl hd fun H1 e z oq => ?_
  refine kk H1 _ (hW.set (e := .inl (1, n, .inr (.inl (vp_updL f i.toNatClampNeg x)))) ha ?_ z oq)
  show H1[(gH G).size + a]? = some (vp_cell (gA G 1) (n, .inr (.inl (vp_updL f i.toNatClampNeg x))))
  rw [e]
  show some (Cell.setSlot (vp_cell (gA G 1) (n, .inr (.inl f))) _ _) = _
  rw [vp_cell_l, vp_cell_l, arrV_store]
  congr 2
  funext q
  by_cases hq : q = i.toNatClampNeg
  · subst hq
    simp [updV, vp_updL]
    try rfl
  · simp [updV, vp_updL, hq]
theorem o_wzast {n : Nat} {f : Nat → Int32} {i : Int32} {x : Int32} (hx : p.tables.exec = Jvm.exec) (hb : cd.code = cc) (hSf : o_Sf G s) (hW : o_Wd G h H locs) (ha : h[a]? = some (.inl (2, n, .inl f))) (hin : vp_in i n) (hd : decode cc pc = .ok (.bastore, 1))
    (kk : ∀ (H1 : Heap) (locs1 : List Loc), o_Wd G (h.set a (.inl (2, n, .inl (upd f i.toNatClampNeg (vp_nar .boolean x))))) H1 locs1 → W p (gl G) e R s m args below meth cd H1 locs1 cells slots Q (F0 m (pc + 1) ls rest)) : W p (gl G) e R s m args below meth cd H locs cells slots Q (F0 m pc ls (.int x :: .int i :: .ref ((gH G).size + a) :: rest)) := by
  refine W.zast hx hb (hW.1 a _ (o_ws_at ha)) ((hSf.1.2 2 _ rfl).1 n (fun j => .int (f j))) (fun q => by cases q) (by show ¬ (i < 0 ∨ (arrV _ _ _).slots.size ≤ _); rw [arrV_size]; exact hin) rfl rfl hd fun H1 e z oq => ?_
  refine kk H1 _ (hW.set (e := .inl (2, n, .inl (upd f i.toNatClampNeg (vp_nar .boolean x)))) ha ?_ z oq)
  show H1[(gH G).size + a]? = some (vp_cell (gA G 2) (n, .inl (upd f i.toNatClampNeg (vp_nar .boolean x))))
  rw [e]
  show some (Cell.setSlot (vp_cell (gA G 2) (n, .inl f)) _ _) = _
  rw [vp_cell_i, vp_cell_i, arrV_store]
  congr 2
  funext q
  by_cases hq : q = i.toNatClampNeg
  · subst hq
    simp [updV, upd, vp_nar]
    try rfl
  · simp [updV, upd, vp_nar, hq]
theorem o_rfE {G : oG} {f : Nat → Option Nat} {t n : Nat} : o_rE G (.inl (t, n, .inr (.inr (.inr (.inr f))))) = .inl (gA G t, n, .inr (.inr (.inr (.inr (fun j => (f j).map (o_ad G)))))) := rfl
theorem o_waast {n t b : Nat} {E : String} {f : Nat → Option Nat} {i : Int32} {vs : List Value} (hx : p.tables.exec = Jvm.exec) (hb : cd.code = cc) (hSf : o_Sf G s) (hW : o_Wd G h H locs) (ha : h[a]? = some (.inl (t, n, .inr (.inr (.inr (.inr f)))))) (ht : (o_tys G)[t]? = some (gA G t, .object E)) (hv : h[b]? = some (.inr (ci, vs))) (hC : o_Cl ci E T N ty) (hin : vp_in i n) (hd : decode cc pc = .ok (.aastore, 1))
    (kk : ∀ (H1 : Heap) (locs1 : List Loc), o_Wd G (h.set a (.inl (t, n, .inr (.inr (.inr (.inr (va_up f i.toNatClampNeg (some (b + 1))))))))) H1 locs1 → W p (gl G) e R s m args below meth cd H1 locs1 cells slots Q (F0 m (pc + 1) ls rest)) : W p (gl G) e R s m args below meth cd H locs cells slots Q (F0 m pc ls (.ref ((gH G).size + b) :: .int i :: .ref ((gH G).size + a) :: rest)) := by
  have hlt : i.toNatClampNeg < n := Nat.not_le.mp fun q => hin (Or.inr q)
  have h0 : ¬ i < 0 := fun q => hin (Or.inl q)
  obtain ⟨r', hr', cellV, g1, g2, g3, -⟩ := hW.1 b _ (o_ws_at hv)
  have hcls := (hSf.1.1 ci _ hC.1).2
  obtain ⟨kA, comp, k1, k2, k3, -⟩ := (hSf.1.2 t _ ht).2
  have hcomp : comp = (gD G).1 ci := Option.some.inj (k3.symm.trans hcls.1)
  subst hcomp
  have hcls2 := hcls
  obtain ⟨kC, hkC, -⟩ := hcls.2
  refine W.aast hx hb (hW.1 a _ (o_ws_at ha)) (fun q h => by cases h) (fun h => by cases h) k1 k2 rfl hkC ⟨h0, by show _ < (arrV _ _ _).slots.size; rw [arrV_size]; exact hlt⟩ g1 (fun q h => by rw [g3] at h; cases h) (by rw [g2]; exact hkC) (by rw [g2]; exact va_assign hcls2) rfl rfl hd fun H1 e z oq => ?_
  refine kk H1 _ (hW.set (e := .inl (t, n, .inr (.inr (.inr (.inr (va_up f i.toNatClampNeg (some (b + 1)))))))) ha ?_ z oq)
  show H1[(gH G).size + a]? = some (vp_cell (gA G t) (n, .inr (.inr (.inr (.inr (fun j => (va_up f i.toNatClampNeg (some (b + 1)) j).map (o_ad G)))))))
  rw [e]
  show some (Cell.setSlot (vp_cell (gA G t) (n, .inr (.inr (.inr (.inr (fun j => (f j).map (o_ad G)))))) ) _ _) = _
  rw [vp_cell_q, vp_cell_q, arrV_store]
  congr 2
  funext q
  by_cases hq : q = i.toNatClampNeg
  · subst hq
    simp [updV, va_up, va_rf, o_ad]
  · simp [updV, va_up, hq]
/-- behind a call -/
theorem o_cont {mc ms : Nat} {P : oP} {as : Array Value} {st0 : List Value} (hr : va_Run p (gl G) e R s m args below meth cd H locs cells slots mc ms (F0 m pc ls st0) rest (o_Qc G P as) (o_A G)) (hW : o_Wd G h H locs)
    (kk : ∀ (v : Option Value) (h' : oH) (H' : Heap) (locs' : List Loc), P v h' → o_Wd G h' H' locs' → W p (gl G) e R s m args below meth cd H' locs' (cells + mc) (slots + ms) Q (F0 m (pc + 3) ls ((v.map (o_rl G)).toList ++ rest))) : W p (gl G) e R s m args below meth cd H locs cells slots Q (F0 m pc ls st0) := by
  intro T hT X
  obtain ⟨v, st₀, t, T', L, e0, X', hL, e1, e2, ⟨v', h', hP, hv, hW'⟩, st⟩ := hr T hT X
  have hv' : v = v'.map (o_rl G) := by injection hv
  subst hv'
  have hW2 : o_Wd G h' T'.heap (locs ++ L) := by
    rw [e1]
    refine ⟨hW'.1, hW'.2.1, ⟨hW'.2.2.1.1, hW'.2.2.1.2.1, fun q hq => ?_⟩, hW'.2.2.2⟩
    rcases List.mem_append.mp hq with h1 | h1
    · exact hW.2.2.1.2.2 q h1
    · exact hL q h1
  obtain ⟨t2, a1, b1⟩ := kk v' h' T'.heap (locs ++ L) hP hW2 T' rfl X'
  exact ⟨t2, st t2 a1, b1⟩
end OW
section OJ
variable {G : oG} {M : oM} {Post : oP} {pc : Nat} {K : oK}
def o_getf (ci k : Nat) (K : oK) : oK := fun c s L st h => match st with
  | v :: r => match o_get h v with
    | some (.inr (cj, fs)) => cj = ci ∧ match fs[k]? with
      | some x => K c s L (x :: r) h
      | none => False
    | _ => False
  | _ => False
theorem so_getf {ci k N index : Nat} {C : String} {T : u_T} {ty : Nat → FieldType} (hC : o_Cl ci C T N ty) (hk : k < N) (hw : Cond.fieldLink (mY M).cls index (T k).1 (T k).2.1 (T k).2.2.1 ∈ o_TT) (hd : decode (mC M) pc = .ok (.getfield index, 3)) (kn : oS G M Post (pc + 3) K) : oS G M Post pc (o_getf ci k K) := by
  intro c s L st h hk2
  unfold o_getf at hk2
  split at hk2
  · split at hk2
    · rename_i v r _ cj fs hg
      obtain ⟨hc1, hk3⟩ := hk2
      subst hc1
      split at hk3
      · rename_i x hx
        obtain ⟨a, rfl, ha⟩ := o_get_spec hg
        intro p e R s0 m args below meth cd Q H locs cells slots ls hE hW hc hs hl
        exact va_get hE.1 hE.2.1 hE.2.2.2.2.2.1 hC.2.1 hE.2.2.2.1 hE.2.2.2.2.2.2.2.2.1.1 hW.1 a (o_ws_at ha) hC.1 k hk (hE.2.2.2.2.2.1 _ hw) (fun _ q => q) (by rw [List.getElem?_map, hx]; rfl) hd (kn _ _ _ _ _ hk3 p e R s0 m args below meth cd Q H locs cells slots ls hE hW hc hs hl)
      · exact hk3.elim
    · exact hk2.elim
  · exact hk2.elim
theorem so_getfN {ci k N index : Nat} {C : String} {T : u_T} {ty : Nat → FieldType} (hC : o_Cl ci C T N ty) (hk : k < N) {host : String} (hw : Cond.fieldLinkNest (mY M).cls index (T k).1 (T k).2.1 (T k).2.2.1 host ∈ o_NW) (hd : decode (mC M) pc = .ok (.getfield index, 3)) (kn : oS G M Post (pc + 3) K) : oS G M Post pc (o_getf ci k K) := by
  intro c s L st h hk2
  unfold o_getf at hk2
  split at hk2
  · split at hk2
    · rename_i v r _ cj fs hg
      obtain ⟨hc1, hk3⟩ := hk2
      subst hc1
      split at hk3
      · rename_i x hx
        obtain ⟨a, rfl, ha⟩ := o_get_spec hg
        intro p e R s0 m args below meth cd Q H locs cells slots ls hE hW hc hs hl
        exact va_getN hE.1 hE.2.1 hE.2.2.2.2.2.1 hC.2.1 hE.2.2.2.1 hE.2.2.2.2.2.2.2.2.1.1 hW.1 a (o_ws_at ha) hC.1 k hk (va_Nw.use rfl (hE.2.2.2.2.2.2.2.2.1.2.2.2.1 _ hw)) (fun _ q => q) (by rw [List.getElem?_map, hx]; rfl) hd (kn _ _ _ _ _ hk3 p e R s0 m args below meth cd Q H locs cells slots ls hE hW hc hs hl)
      · exact hk3.elim
    · exact hk2.elim
  · exact hk2.elim
def o_putfI (ci k : Nat) (K : oK) : oK := fun c s L st h => match st with
  | .int x :: v :: r => match o_get h v with
    | some (.inr (cj, fs)) => (cj = ci ∧ k < fs.length) ∧ K c s L r (h.set (o_ix v) (.inr (ci, fs.set k (.int x))))
    | _ => False
  | _ => False
def o_putfR (ci k : Nat) (K : oK) : oK := fun c s L st h => match st with
  | .ref x :: v :: r => match o_get h v with
    | some (.inr (cj, fs)) => (cj = ci ∧ k < fs.length) ∧ K c s L r (h.set (o_ix v) (.inr (ci, fs.set k (.ref x))))
    | _ => False
  | _ => False
theorem so_putfI {ci k N index : Nat} {C : String} {T : u_T} {ty : Nat → FieldType} (hC : o_Cl ci C T N ty) (hk : k < N) (hty : ty k = .int) (hfin : (T k).2.2.2 = false) (hw : Cond.fieldLink (mY M).cls index (T k).1 (T k).2.1 (T k).2.2.1 ∈ o_TT) (hd : decode (mC M) pc = .ok (.putfield index, 3)) (kn : oS G M Post (pc + 3) K) : oS G M Post pc (o_putfI ci k K) := by
  intro c s L st h hk2
  unfold o_putfI at hk2
  split at hk2
  · split at hk2
    · rename_i x v r _ cj fs hg
      obtain ⟨⟨hc1, hlen⟩, hk3⟩ := hk2
      subst hc1
      obtain ⟨a, rfl, ha⟩ := o_get_spec hg
      intro p e R s0 m args below meth cd Q H locs cells slots ls hE hW hc hs hl
      exact o_wput (v := .int x) hE.1 hE.2.1 hE.2.2.2.2.2.1 hE.2.2.2.1 hE.2.2.2.2.2.2.2.2.1 hC hW ha hk (hE.2.2.2.2.2.1 _ hw) hfin (by rw [hty]; rfl) (by rw [hty]; rfl) hlen hd (fun H1 locs1 hW1 => kn _ _ _ _ _ hk3 p e R s0 m args below meth cd Q H1 locs1 cells slots ls hE hW1 hc hs hl)
    · exact hk2.elim
  · exact hk2.elim
theorem so_putfIN {ci k N index : Nat} {C : String} {T : u_T} {ty : Nat → FieldType} (hC : o_Cl ci C T N ty) (hk : k < N) (hty : ty k = .int) (hfin : (T k).2.2.2 = false) {host : String} (hw : Cond.fieldLinkNest (mY M).cls index (T k).1 (T k).2.1 (T k).2.2.1 host ∈ o_NW) (hd : decode (mC M) pc = .ok (.putfield index, 3)) (kn : oS G M Post (pc + 3) K) : oS G M Post pc (o_putfI ci k K) := by
  intro c s L st h hk2
  unfold o_putfI at hk2
  split at hk2
  · split at hk2
    · rename_i x v r _ cj fs hg
      obtain ⟨⟨hc1, hlen⟩, hk3⟩ := hk2
      subst hc1
      obtain ⟨a, rfl, ha⟩ := o_get_spec hg
      intro p e R s0 m args below meth cd Q H locs cells slots ls hE hW hc hs hl
      exact o_wputN (v := .int x) hE.1 hE.2.1 hE.2.2.2.2.2.1 hE.2.2.2.1 hE.2.2.2.2.2.2.2.2.1 hC hW ha hk (va_Nw.use rfl (hE.2.2.2.2.2.2.2.2.1.2.2.2.1 _ hw)) hfin (by rw [hty]; rfl) (by rw [hty]; rfl) hlen hd (fun H1 locs1 hW1 => kn _ _ _ _ _ hk3 p e R s0 m args below meth cd Q H1 locs1 cells slots ls hE hW1 hc hs hl)
    · exact hk2.elim
  · exact hk2.elim
theorem so_putfIF {ci k N index : Nat} {C : String} {T : u_T} {ty : Nat → FieldType} (hC : o_Cl ci C T N ty) (hk : k < N) (hty : ty k = .int) (hfin : (T k).2.2.2 = true) (hin2 : (mY M).name = "<init>") (hdecl : (T k).1 = (mY M).cls) (hw : Cond.fieldLink (mY M).cls index (T k).1 (T k).2.1 (T k).2.2.1 ∈ o_TT) (hd : decode (mC M) pc = .ok (.putfield index, 3)) (kn : oS G M Post (pc + 3) K) : oS G M Post pc (o_putfI ci k K) := by
  intro c s L st h hk2
  unfold o_putfI at hk2
  split at hk2
  · split at hk2
    · rename_i x v r _ cj fs hg
      obtain ⟨⟨hc1, hlen⟩, hk3⟩ := hk2
      subst hc1
      obtain ⟨a, rfl, ha⟩ := o_get_spec hg
      intro p e R s0 m args below meth cd Q H locs cells slots ls hE hW hc hs hl
      exact o_wputF (v := .int x) hE.1 hE.2.1 hE.2.2.2.2.2.1 hE.2.2.2.1 hE.2.2.2.2.2.2.2.2.1 hC hW ha hk (hE.2.2.2.2.2.1 _ hw) hfin (hE.2.2.2.2.1.trans hin2) hdecl (by rw [hty]; rfl) (by rw [hty]; rfl) hlen hd (fun H1 locs1 hW1 => kn _ _ _ _ _ hk3 p e R s0 m args below meth cd Q H1 locs1 cells slots ls hE hW1 hc hs hl)
    · exact hk2.elim
  · exact hk2.elim
theorem so_putfR {ci k N index : Nat} {C : String} {T : u_T} {ty : Nat → FieldType} (hC : o_Cl ci C T N ty) (hk : k < N) (hty : (∃ E, ty k = .object E) ∨ (∃ E, ty k = .array E)) (hfin : (T k).2.2.2 = false) (hw : Cond.fieldLink (mY M).cls index (T k).1 (T k).2.1 (T k).2.2.1 ∈ o_TT) (hd : decode (mC M) pc = .ok (.putfield index, 3)) (kn : oS G M Post (pc + 3) K) : oS G M Post pc (o_putfR ci k K) := by
  intro c s L st h hk2
  unfold o_putfR at hk2
  split at hk2
  · split at hk2
    · rename_i x v r _ cj fs hg
      obtain ⟨⟨hc1, hlen⟩, hk3⟩ := hk2
      subst hc1
      obtain ⟨a, rfl, ha⟩ := o_get_spec hg
      intro p e R s0 m args below meth cd Q H locs cells slots ls hE hW hc hs hl
      exact o_wput (v := .ref x) hE.1 hE.2.1 hE.2.2.2.2.2.1 hE.2.2.2.1 hE.2.2.2.2.2.2.2.2.1 hC hW ha hk (hE.2.2.2.2.2.1 _ hw) hfin (by rcases hty with ⟨E, q⟩ | ⟨E, q⟩ <;> rw [q] <;> rfl) (by rcases hty with ⟨E, q⟩ | ⟨E, q⟩ <;> rw [q] <;> rfl) hlen hd (fun H1 locs1 hW1 => kn _ _ _ _ _ hk3 p e R s0 m args below meth cd Q H1 locs1 cells slots ls hE hW1 hc hs hl)
    · exact hk2.elim
  · exact hk2.elim
theorem so_putfRN {ci k N index : Nat} {C : String} {T : u_T} {ty : Nat → FieldType} (hC : o_Cl ci C T N ty) (hk : k < N) (hty : (∃ E, ty k = .object E) ∨ (∃ E, ty k = .array E)) (hfin : (T k).2.2.2 = false) {host : String} (hw : Cond.fieldLinkNest (mY M).cls index (T k).1 (T k).2.1 (T k).2.2.1 host ∈ o_NW) (hd : decode (mC M) pc = .ok (.putfield index, 3)) (kn : oS G M Post (pc + 3) K) : oS G M Post pc (o_putfR ci k K) := by
  intro c s L st h hk2
  unfold o_putfR at hk2
  split at hk2
  · split at hk2
    · rename_i x v r _ cj fs hg
      obtain ⟨⟨hc1, hlen⟩, hk3⟩ := hk2
      subst hc1
      obtain ⟨a, rfl, ha⟩ := o_get_spec hg
      intro p e R s0 m args below meth cd Q H locs cells slots ls hE hW hc hs hl
      exact o_wputN (v := .ref x) hE.1 hE.2.1 hE.2.2.2.2.2.1 hE.2.2.2.1 hE.2.2.2.2.2.2.2.2.1 hC hW ha hk (va_Nw.use rfl (hE.2.2.2.2.2.2.2.2.1.2.2.2.1 _ hw)) hfin (by rcases hty with ⟨E, q⟩ | ⟨E, q⟩ <;> rw [q] <;> rfl) (by rcases hty with ⟨E, q⟩ | ⟨E, q⟩ <;> rw [q] <;> rfl) hlen hd (fun H1 locs1 hW1 => kn _ _ _ _ _ hk3 p e R s0 m args below meth cd Q H1 locs1 cells slots ls hE hW1 hc hs hl)
    · exact hk2.elim
  · exact hk2.elim
theorem so_putfRF {ci k N index : Nat} {C : String} {T : u_T} {ty : Nat → FieldType} (hC : o_Cl ci C T N ty) (hk : k < N) (hty : (∃ E, ty k = .object E) ∨ (∃ E, ty k = .array E)) (hfin : (T k).2.2.2 = true) (hin2 : (mY M).name = "<init>") (hdecl : (T k).1 = (mY M).cls) (hw : Cond.fieldLink (mY M).cls index (T k).1 (T k).2.1 (T k).2.2.1 ∈ o_TT) (hd : decode (mC M) pc = .ok (.putfield index, 3)) (kn : oS G M Post (pc + 3) K) : oS G M Post pc (o_putfR ci k K) := by
  intro c s L st h hk2
  unfold o_putfR at hk2
  split at hk2
  · split at hk2
    · rename_i x v r _ cj fs hg
      obtain ⟨⟨hc1, hlen⟩, hk3⟩ := hk2
      subst hc1
      obtain ⟨a, rfl, ha⟩ := o_get_spec hg
      intro p e R s0 m args below meth cd Q H locs cells slots ls hE hW hc hs hl
      exact o_wputF (v := .ref x) hE.1 hE.2.1 hE.2.2.2.2.2.1 hE.2.2.2.1 hE.2.2.2.2.2.2.2.2.1 hC hW ha hk (hE.2.2.2.2.2.1 _ hw) hfin (hE.2.2.2.2.1.trans hin2) hdecl (by rcases hty with ⟨E, q⟩ | ⟨E, q⟩ <;> rw [q] <;> rfl) (by rcases hty with ⟨E, q⟩ | ⟨E, q⟩ <;> rw [q] <;> rfl) hlen hd (fun H1 locs1 hW1 => kn _ _ _ _ _ hk3 p e R s0 m args below meth cd Q H1 locs1 cells slots ls hE hW1 hc hs hl)
    · exact hk2.elim
  · exact hk2.elim
def o_ints (G : oG) (h : oH) (v : Value) : Option (Nat × (Nat → Int32)) := match v with
  | .ref 0 => some (gn G, gx G)
  | .ref (a + 1) => match h[a]? with
    | some (.inl (t, n, .inl f)) => if t = 0 then some (n, f) else none
    | _ => none
  | _ => none
theorem o_ints_spec {h : oH} {v : Value} {n : Nat} {f : Nat → Int32} (hg : o_ints G h v = some (n, f)) : (v = .ref 0 ∧ n = gn G ∧ f = gx G) ∨ ∃ a : Nat, v = .ref (a + 1) ∧ h[a]? = some (.inl (0, n, .inl f)) := by
  unfold o_ints at hg
  split at hg
  · left
    cases hg
    exact ⟨rfl, rfl, rfl⟩
  · right
    rename_i a
    split at hg
    · rename_i t n' f' ha
      split at hg
      · rename_i ht
        subst ht
        cases hg
        exact ⟨a, rfl, ha⟩
      · cases hg
    · cases hg
  · cases hg
def o_iald (G : oG) (K : oK) : oK := fun c s L st h => match st with
  | .int i :: v :: r => match o_ints G h v with
    | some (n, f) => vp_in i n ∧ K c s L (.int (f i.toNatClampNeg) :: r) h
    | none => False
  | _ => False
theorem so_iald (hd : decode (mC M) pc = .ok (.iaload, 1)) (kn : oS G M Post (pc + 1) K) : oS G M Post pc (o_iald G K) := by
  intro c s L st h hk2
  unfold o_iald at hk2
  split at hk2
  · split at hk2
    · rename_i i v r _ n f hg
      intro p e R s0 m args below meth cd Q H locs cells slots ls hE hW hc hs hl
      have hX := hE.2.2.2.2.2.2.2.2.1
      rcases o_ints_spec hg with ⟨rfl, rfl, rfl⟩ | ⟨a, rfl, ha⟩
      · exact va_sld (A := o_A G) hE.1 hE.2.1 hX.2.1 hX.2.2.1 (fun q => Nat.lt_irrefl _ (Nat.lt_of_lt_of_le hX.2.2.1 q)) hW.2.2.1 hk2.1 hd (kn _ _ _ _ _ hk2.2 p e R s0 m args below meth cd Q H locs cells slots ls hE hW hc hs hl)
      · exact va_iald hE.1 hE.2.1 hX.1 hW.1 a 0 (o_ws_at ha) rfl hk2.1 hd (kn _ _ _ _ _ hk2.2 p e R s0 m args below meth cd Q H locs cells slots ls hE hW hc hs hl)
    · exact hk2.elim
  · exact hk2.elim
def o_alen (G : oG) (K : oK) : oK := fun c s L st h => match st with
  | v :: r => match o_ints G h v with
    | some (n, _) => K c s L (.int (Int32.ofNat n) :: r) h
    | none => False
  | _ => False
theorem so_alen (hd : decode (mC M) pc = .ok (.arraylength, 1)) (kn : oS G M Post (pc + 1) K) : oS G M Post pc (o_alen G K) := by
  intro c s L st h hk2
  unfold o_alen at hk2
  split at hk2
  · split at hk2
    · rename_i v r _ n f hg
      intro p e R s0 m args below meth cd Q H locs cells slots ls hE hW hc hs hl
      have hX := hE.2.2.2.2.2.2.2.2.1
      rcases o_ints_spec hg with ⟨rfl, rfl, rfl⟩ | ⟨a, rfl, ha⟩
      · exact va_slen (A := o_A G) hE.1 hE.2.1 hX.2.1 hX.2.2.1 (fun q => Nat.lt_irrefl _ (Nat.lt_of_lt_of_le hX.2.2.1 q)) hW.2.2.1 hd (kn _ _ _ _ _ hk2 p e R s0 m args below meth cd Q H locs cells slots ls hE hW hc hs hl)
      · exact va_alen hE.1 hE.2.1 hX.1 hW.1 a 0 (o_ws_at ha) rfl rfl hd (kn _ _ _ _ _ hk2 p e R s0 m args below meth cd Q H locs cells slots ls hE hW hc hs hl)
    · exact hk2.elim
  · exact hk2.elim
def o_lald (K : oK) : oK := fun c s L st h => match st with
  | .int i :: v :: r => match o_get h v with
    | some (.inl (t, n, .inr (.inl f))) => t = 1 ∧ vp_in i n ∧ K c s L (.long (f i.toNatClampNeg) :: r) h
    | _ => False
  | _ => False
theorem so_lald (hd : decode (mC M) pc = .ok (.laload, 1)) (kn : oS G M Post (pc + 1) K) : oS G M Post pc (o_lald K) := by
  intro c s L st h hk2
  unfold o_lald at hk2
  split at hk2
  · split at hk2
    · rename_i i v r _ t n f hg
      obtain ⟨rfl, hin, hk3⟩ := hk2
      obtain ⟨a, rfl, ha⟩ := o_get_spec hg
      intro p e R s0 m args below meth cd Q H locs cells slots ls hE hW hc hs hl
      exact va_lald hE.1 hE.2.1 hE.2.2.2.2.2.2.2.2.1.1 hW.1 a 1 (o_ws_at ha) rfl hin hd (kn _ _ _ _ _ hk3 p e R s0 m args below meth cd Q H locs cells slots ls hE hW hc hs hl)
    · exact hk2.elim
  · exact hk2.elim
def o_zald (K : oK) : oK := fun c s L st h => match st with
  | .int i :: v :: r => match o_get h v with
    | some (.inl (t, n, .inl f)) => t = 2 ∧ vp_in i n ∧ K c s L (.int (f i.toNatClampNeg) :: r) h
    | _ => False
  | _ => False
theorem so_zald (hd : decode (mC M) pc = .ok (.baload, 1)) (kn : oS G M Post (pc + 1) K) : oS G M Post pc (o_zald K) := by
  intro c s L st h hk2
  unfold o_zald at hk2
  split at hk2
  · split at hk2
    · rename_i i v r _ t n f hg
      obtain ⟨rfl, hin, hk3⟩ := hk2
      obtain ⟨a, rfl, ha⟩ := o_get_spec hg
      intro p e R s0 m args below meth cd Q H locs cells slots ls hE hW hc hs hl
      exact va_zald hE.1 hE.2.1 hE.2.2.2.2.2.2.2.2.1.1 hW.1 a 2 (o_ws_at ha) rfl hin hd (kn _ _ _ _ _ hk3 p e R s0 m args below meth cd Q H locs cells slots ls hE hW hc hs hl)
    · exact hk2.elim
  · exact hk2.elim
def o_iast (K : oK) : oK := fun c s L st h => match st with
  | .int x :: .int i :: v :: r => match o_get h v with
    | some (.inl (t, n, .inl f)) => t = 0 ∧ vp_in i n ∧ K c s L r (h.set (o_ix v) (.inl (t, n, .inl (upd f i.toNatClampNeg x))))
    | _ => False
  | _ => False
theorem so_iast (hd : decode (mC M) pc = .ok (.iastore, 1)) (kn : oS G M Post (pc + 1) K) : oS G M Post pc (o_iast K) := by
  intro c s L st h hk2
  unfold o_iast at hk2
  split at hk2
  · split at hk2
    · rename_i x i v r _ t n f hg
      obtain ⟨rfl, hin, hk3⟩ := hk2
      obtain ⟨a, rfl, ha⟩ := o_get_spec hg
      intro p e R s0 m args below meth cd Q H locs cells slots ls hE hW hc hs hl
      exact o_wiast hE.1 hE.2.1 hE.2.2.2.2.2.2.2.2.1 hW ha hin hd (fun H1 locs1 hW1 => kn _ _ _ _ _ hk3 p e R s0 m args below meth cd Q H1 locs1 cells slots ls hE hW1 hc hs hl)
    · exact hk2.elim
  · exact hk2.elim
def o_last (K : oK) : oK := fun c s L st h => match st with
  | .long x :: .int i :: v :: r => match o_get h v with
    | some (.inl (t, n, .inr (.inl f))) => t = 1 ∧ vp_in i n ∧ K c s L r (h.set (o_ix v) (.inl (t, n, .inr (.inl (vp_updL f i.toNatClampNeg x)))))
    | _ => False
  | _ => False
theorem so_last (hd : decode (mC M) pc = .ok (.lastore, 1)) (kn : oS G M Post (pc + 1) K) : oS G M Post pc (o_last K) := by
  intro c s L st h hk2
  unfold o_last at hk2
  split at hk2
  · split at hk2
    · rename_i x i v r _ t n f hg
      obtain ⟨rfl, hin, hk3⟩ := hk2
      obtain ⟨a, rfl, ha⟩ := o_get_spec hg
      intro p e R s0 m args below meth cd Q H locs cells slots ls hE hW hc hs hl
      exact o_wlast hE.1 hE.2.1 hE.2.2.2.2.2.2.2.2.1 hW ha hin hd (fun H1 locs1 hW1 => kn _ _ _ _ _ hk3 p e R s0 m args below meth cd Q H1 locs1 cells slots ls hE hW1 hc hs hl)
    · exact hk2.elim
  · exact hk2.elim
def o_zast (K : oK) : oK := fun c s L st h => match st with
  | .int x :: .int i :: v :: r => match o_get h v with
    | some (.inl (t, n, .inl f)) => t = 2 ∧ vp_in i n ∧ K c s L r (h.set (o_ix v) (.inl (t, n, .inl (upd f i.toNatClampNeg (vp_nar .boolean x)))))
    | _ => False
  | _ => False
theorem so_zast (hd : decode (mC M) pc = .ok (.bastore, 1)) (kn : oS G M Post (pc + 1) K) : oS G M Post pc (o_zast K) := by
  intro c s L st h hk2
  unfold o_zast at hk2
  split at hk2
  · split at hk2
    · rename_i x i v r _ t n f hg
      obtain ⟨rfl, hin, hk3⟩ := hk2
      obtain ⟨a, rfl, ha⟩ := o_get_spec hg
      intro p e R s0 m args below meth cd Q H locs cells slots ls hE hW hc hs hl
      exact o_wzast hE.1 hE.2.1 hE.2.2.2.2.2.2.2.2.1 hW ha hin hd (fun H1 locs1 hW1 => kn _ _ _ _ _ hk3 p e R s0 m args below meth cd Q H1 locs1 cells slots ls hE hW1 hc hs hl)
    · exact hk2.elim
  · exact hk2.elim
/-- a place of an array of objects that has been filled -/
def o_aald (tt : Nat) (K : oK) : oK := fun c s L st h => match st with
  | .int i :: v :: r => match o_get h v with
    | some (.inl (t, n, .inr (.inr (.inr (.inr f))))) => t = tt ∧ vp_in i n ∧ match f i.toNatClampNeg with
      | some b => K c s L (.ref b :: r) h
      | none => False
    | _ => False
  | _ => False
theorem so_aald {tt : Nat} {E : String} (hd : decode (mC M) pc = .ok (.aaload, 1)) (ht : (o_tys G)[tt]? = some (gA G tt, .object E)) (kn : oS G M Post (pc + 1) K) : oS G M Post pc (o_aald tt K) := by
  intro c s L st h hk2
  unfold o_aald at hk2
  split at hk2
  · split at hk2
    · rename_i i v r _ t n f hg
      obtain ⟨rfl, hin, hk3⟩ := hk2
      split at hk3
      · rename_i b hf
        obtain ⟨a, rfl, ha⟩ := o_get_spec hg
        intro p e R s0 m args below meth cd Q H locs cells slots ls hE hW hc hs hl
        refine va_aldq hE.1 hE.2.1 hE.2.2.2.2.2.2.2.2.1.1 hW.1 a t (o_ws_at ha) ht hin hd ?_
        rw [hf]
        exact kn _ _ _ _ _ hk3 p e R s0 m args below meth cd Q H locs cells slots ls hE hW hc hs hl
      · exact hk3.elim
    · exact hk2.elim
  · exact hk2.elim
def o_aast (tt ci : Nat) (K : oK) : oK := fun c s L st h => match st with
  | .ref (b + 1) :: .int i :: v :: r => match o_get h v with
    | some (.inl (t, n, .inr (.inr (.inr (.inr f))))) => t = tt ∧ vp_in i n ∧ match h[b]? with
      | some (.inr (cj, _)) => cj = ci ∧ K c s L r (h.set (o_ix v) (.inl (t, n, .inr (.inr (.inr (.inr (va_up f i.toNatClampNeg (some (b + 1)))))))))
      | _ => False
    | _ => False
  | _ => False
theorem so_aast {tt ci N : Nat} {E : String} {T : u_T} {ty : Nat → FieldType} (hC : o_Cl ci E T N ty) (hd : decode (mC M) pc = .ok (.aastore, 1)) (ht : (o_tys G)[tt]? = some (gA G tt, .object E)) (kn : oS G M Post (pc + 1) K) : oS G M Post pc (o_aast tt ci K) := by
  intro c s L st h hk2
  unfold o_aast at hk2
  split at hk2
  · split at hk2
    · rename_i b i v r _ t n f hg
      obtain ⟨rfl, hin, hk3⟩ := hk2
      split at hk3
      · rename_i cj vs hb
        obtain ⟨rfl, hk4⟩ := hk3
        obtain ⟨a, rfl, ha⟩ := o_get_spec hg
        intro p e R s0 m args below meth cd Q H locs cells slots ls hE hW hc hs hl
        exact o_waast hE.1 hE.2.1 hE.2.2.2.2.2.2.2.2.1 hW ha ht hb hC hin hd (fun H1 locs1 hW1 => kn _ _ _ _ _ hk4 p e R s0 m args below meth cd Q H1 locs1 cells slots ls hE hW1 hc hs hl)
      · exact hk3.elim
    · exact hk2.elim
  · exact hk2.elim
-- new cells
def o_new (ci : Nat) (fs : List Value) (K : oK) : oK := fun c s L st h => 1 ≤ c ∧ fs.length ≤ s ∧ K (c - 1) (s - fs.length) L (.ref (h.length + 1) :: st) (h ++ [.inr (ci, fs)])
theorem so_new {ci N index : Nat} {C : String} {T : u_T} {ty : Nat → FieldType} {fs : List Value} (hC : o_Cl ci C T N ty) (h1 : Cond.classLink (mY M).cls index C ∈ o_TT) (h2 : Cond.instantiable C N ∈ o_TT) (h3 : Cond.initialized C ∈ o_TT) (hN : fs.length = N) (hfr : fs.map (o_rl G) = fs) (hfs : ∀ j, j < N → defaultValue (ty j) = vp_V fs j) (hd : decode (mC M) pc = .ok (.new index, 3)) (kn : oS G M Post (pc + 3) K) : oS G M Post pc (o_new ci fs K) := by
  intro c s L st h hk2
  obtain ⟨hc1, hs1, hk3⟩ := hk2
  intro p e R s0 m args below meth cd Q H locs cells slots ls hE hW hc hs hl
  have hts := hE.2.2.2.2.2.1
  have hKn := hE.2.2.2.2.2.2.2.2.1.1.1 ci _ hC.1
  refine W.newcK hE.1 hE.2.1 hE.2.2.2.1 (hts _ h1) (hts _ h2) (hts _ h3) rfl hd (by omega) (by omega) hKn.2.1 rfl fun H1 kC hkC e1 z1 o1 => ?_
  have hW1 : o_Wd G (h ++ [.inr (ci, fs)]) H1 locs := hW.push ⟨_, hC.1, (u_born ty hts hC.2.1 hKn hkC e1 hC.2.2.1).to (fun j hj => by show _ = vp_V (fs.map (o_rl G)) j; rw [hfr]; exact hfs j hj)⟩ z1 o1
  have kk := kn _ _ _ _ _ hk3 p e R s0 m args below meth cd Q H1 locs (cells + 1) (slots + N) ls hE hW1 (by omega) (by omega) hl
  rw [hW.2.2.2]
  exact kk
def o_newa (t : Nat) (x : (Nat → Int32) ⊕ (Nat → Int64) ⊕ (Nat → UInt32) ⊕ (Nat → UInt64) ⊕ (Nat → Option Nat)) (K : oK) : oK := fun c s L st h => match st with
  | .int n :: r => (¬ n < 0 ∧ n.toNatClampNeg ≤ 4096) ∧ 1 ≤ c ∧ n.toNatClampNeg ≤ s ∧ K (c - 1) (s - n.toNatClampNeg) L (.ref (h.length + 1) :: r) (h ++ [.inl (t, n.toNatClampNeg, x)])
  | _ => False
theorem so_newa {t : Nat} {x : (Nat → Int32) ⊕ (Nat → Int64) ⊕ (Nat → UInt32) ⊕ (Nat → UInt64) ⊕ (Nat → Option Nat)} {atype : ArrayType} {ty : FieldType} (hty : newarray.typeOf atype = ty) (hw : Cond.arrayClass ty ∈ o_TT) (ht : (o_tys G)[t]? = some (gA G t, ty)) (hob : ∀ E, ty ≠ .object E) (hby : componentBytes ty ≤ 8) (hx : o_rX G x = x) (hcl : ∀ (cA : ClassId) (n : Nat), vp_cell cA (n, x) = arrV cA n (fun _ => defaultValue ty)) (hd : decode (mC M) pc = .ok (.newarray atype, 2)) (kn : oS G M Post (pc + 2) K) : oS G M Post pc (o_newa t x K) := by
  subst hty
  intro c s L st h hk2
  unfold o_newa at hk2
  split at hk2
  · rename_i n r
    obtain ⟨⟨hn, hm⟩, hc1, hs1, hk3⟩ := hk2
    intro p e R s0 m args below meth cd Q H locs cells slots ls hE hW hc hs hl
    have hts := hE.2.2.2.2.2.1
    refine va_newaK (N := n.toNatClampNeg) hE.1 hE.2.1 (hts _ hw) rfl hd rfl hn rfl (Nat.le_trans (Nat.mul_le_mul hm hby) (by decide)) (by omega) (by omega) rfl fun H1 cA e1 z1 o1 hAr hNm => ?_
    have hcA : cA = gA G t := by
      have h9 := (hE.2.2.2.2.2.2.2.2.1.1.2 t _ ht).2
      unfold va_RA at h9
      split at h9
      · rename_i E q
        exact absurd q (hob E)
      · exact Option.some.inj (hNm.symm.trans h9)
    subst hcA
    have hW1 : o_Wd G (h ++ [.inl (t, n.toNatClampNeg, x)]) H1 locs := hW.push (by
      show H1[H.size]? = some (vp_cell (gA G t) (n.toNatClampNeg, o_rX G x))
      rw [hx, hcl]
      exact e1) z1 o1
    have kk := kn _ _ _ _ _ hk3 p e R s0 m args below meth cd Q H1 locs (cells + 1) (slots + n.toNatClampNeg) ls hE hW1 (by omega) (by omega) hl
    rw [hW.2.2.2]
    exact kk
  · exact hk2.elim
theorem so_anew {t index : Nat} {C : String} (h1 : Cond.classLink (mY M).cls index C ∈ o_TT) (h2 : C ∈ o_AO) (ht : (o_tys G)[t]? = some (gA G t, .object C)) (hd : decode (mC M) pc = .ok (.anewarray index, 3)) (kn : oS G M Post (pc + 3) K) : oS G M Post pc (o_newa t (.inr (.inr (.inr (.inr (fun _ => none))))) K) := by
  intro c s L st h hk2
  unfold o_newa at hk2
  split at hk2
  · rename_i n r
    obtain ⟨⟨hn, hm⟩, hc1, hs1, hk3⟩ := hk2
    intro p e R s0 m args below meth cd Q H locs cells slots ls hE hW hc hs hl
    have hts := hE.2.2.2.2.2.1
    refine W.anew hE.1 hE.2.1 hE.2.2.2.1 (hts _ h1) (va_AO.use (hE.2.2.2.2.2.2.2.2.1.2.2.2.2 C h2)) rfl hd rfl hn (by omega) (by omega) (by omega) fun cA kA comp f1 f2 f3 f4 => ?_
    have hcA : cA = gA G t := by
      obtain ⟨kA', comp', g1, g2, g3, g4⟩ := (hE.2.2.2.2.2.2.2.2.1.1.2 t _ ht).2
      exact Option.some.inj (f1.symm.trans g4)
    subst hcA
    have hW1 : o_Wd G (h ++ [.inl (t, n.toNatClampNeg, .inr (.inr (.inr (.inr (fun _ => none)))))]) (H.push ({ cls := gA G t, slots := Array.replicate n.toNatClampNeg .null, vm := .none } : Cell)) locs := hW.push (by
      show (H.push _)[H.size]? = some (vp_cell (gA G t) (n.toNatClampNeg, .inr (.inr (.inr (.inr (fun _ => none))))))
      rw [Array.getElem?_push_size, vp_cell_q, arrV_new]
      rfl) (by rw [Array.size_push]) (fun q hq => by rw [Array.getElem?_push, if_neg (Nat.ne_of_lt hq)])
    have kk := kn _ _ _ _ _ hk3 p e R s0 m args below meth cd Q _ locs (cells + 1) (slots + n.toNatClampNeg) ls hE hW1 (by omega) (by omega) hl
    have e9 : F0 m (pc + 3) ls (.ref H.size :: r.map (o_rl G)) = F0 m (pc + 3) ls ((Value.ref (h.length + 1) :: r).map (o_rl G)) := by
      rw [hW.2.2.2]; rfl
    exact W.eq e9 kk
  · exact hk2.elim
end OJ
/-- what the tables say of a method: its code, that its owner is ready, the number of its arguments -/
def o_Mf (M : oM) (n : Nat) : Prop := mW M ∈ o_TT ∧ Cond.initialized (mY M).cls ∈ o_TT ∧ ((mY M).cls ≠ "java/lang/invoke/MethodHandle" ∧ (mY M).cls ≠ "java/lang/invoke/VarHandle" ∧ (parseMethodDescriptor (mY M).desc).map (fun d => d.parameters.length) = some n)
theorem o_good {M : oM} (h : mW M ∈ o_TT) : GoodIn o_TT (mW M :: o_TT) := by
  intro w hw
  rcases List.mem_cons.mp hw with e | e
  · rw [e]; exact ⟨h, o_TT_good _ h⟩
  · exact ⟨e, o_TT_good _ e⟩
section OC
variable {G : oG} {M : oM} {Post : oP} {pc : Nat} {K : oK}
def o_callS (G : oG) (M' : oM) (n : Nat) (K : oK) : oK := fun c s L st h => n ≤ st.length ∧ ((st.drop n).map Value.category).sum ≤ 8 ∧ ∃ (mc ms : Nat) (P : oP), mc ≤ c ∧ ms ≤ s ∧ Mt G M' (st.take n).reverse h mc ms P ∧ ∀ (w : Option Value) (h' : oH), P w h' → K (c - mc) (s - ms) L (w.toList ++ st.drop n) h'
def o_callI (G : oG) (M' : oM) (n : Nat) (K : oK) : oK := fun c s L st h => match st.drop n with
  | .ref a :: rest => (rest.map Value.category).sum ≤ 8 ∧ ∃ (mc ms : Nat) (P : oP), mc ≤ c ∧ ms ≤ s ∧ Mt G M' (.ref a :: (st.take n).reverse) h mc ms P ∧ ∀ (w : Option Value) (h' : oH), P w h' → K (c - mc) (s - ms) L (w.toList ++ rest) h'
  | _ => False
def o_callV (G : oG) (ci : Nat) (M' : oM) (n : Nat) (K : oK) : oK := fun c s L st h => match st.drop n with
  | v :: rest => match o_get h v with
    | some (.inr (cj, _)) => cj = ci ∧ (rest.map Value.category).sum ≤ 8 ∧ ∃ (mc ms : Nat) (P : oP), mc ≤ c ∧ ms ≤ s ∧ Mt G M' (v :: (st.take n).reverse) h mc ms P ∧ ∀ (w : Option Value) (h' : oH), P w h' → K (c - mc) (s - ms) L (w.toList ++ rest) h'
    | _ => False
  | _ => False
theorem o_catsum (G : oG) (st : List Value) : ((st.map (o_rl G)).map fun v => v.category).sum = (st.map Value.category).sum := by
  rw [List.map_map]
  congr 1
  apply List.map_congr_left
  intro v _
  exact o_cat G v
theorem o_toList (G : oG) (w : Option Value) (st : List Value) : (w.map (o_rl G)).toList ++ st.map (o_rl G) = (w.toList ++ st).map (o_rl G) := by
  cases w <;> simp
theorem so_callS {M' : oM} {n index : Nat} (hM : o_Mf M' n) (hst1 : Cond.static (mY M') ∈ o_TT) (hl1 : Cond.methodLink (mY M).cls index (mY M') ∈ o_TT) (hD : mD M' < mD M) (hQ : 8 + (mL M' + 11) + mQ M' ≤ mQ M) (hd : decode (mC M) pc = .ok (.invokestatic index, 3)) (kn : oS G M Post (pc + 3) K) : oS G M Post pc (o_callS G M' n K) := by
  intro c s L st h hk2
  obtain ⟨hn, hcat, mc, ms, P, hmc, hms, hMt, hk3⟩ := hk2
  intro p e R s0 m args below meth cd Q H locs cells slots ls hE hW hc hs hl
  have hts := hE.2.2.2.2.2.1
  have hSf := hE.2.2.2.2.2.2.2.2.1
  have hfr := hE.2.2.2.2.2.2.1
  have hlo := hE.2.2.2.2.2.2.2.1
  have hR : (mRm M' mc ms).frames + 1 ≤ R.frames ∧ 8 + (mL M' + 11) + (mRm M' mc ms).locals ≤ R.locals := ⟨by show mD M' + 1 ≤ _; omega, by show 8 + (mL M' + 11) + mQ M' ≤ _; omega⟩
  have hstk : (F0 m pc ls (st.map (o_rl G))).stack = (((st.take n).reverse).map (o_rl G)).reverse ++ (st.drop n).map (o_rl G) := by
    show st.map (o_rl G) = _
    rw [List.map_reverse, List.reverse_reverse, ← List.map_append, List.take_append_drop]
  have hr := va_runS (H := H) (locs := locs) (cells := cells) (slots := slots) (e := e) (below := below) (meth := meth) (g := F0 m pc ls (st.map (o_rl G))) (n := n) ⟨hE.1, hE.2.1, hE.2.2.1, hE.2.2.2.1, hts⟩ hMt ⟨callB_of n hts (o_good hM.1) rfl rfl rfl (hts _ hM.2.1) (hts _ hl1) hM.2.2 hR, hts _ hst1⟩ (As := ((st.take n).reverse).map (o_rl G)) (rest := (st.drop n).map (o_rl G)) ⟨o_blind _ _ _, fun U hU hw => ⟨rfl, by rw [hU]; exact hW.forget, hSf.warm hw⟩⟩ rfl (by rw [List.length_map, List.length_reverse, List.length_take]; omega) hl.1 hstk (lv_room (by rw [o_catsum]; exact hcat)) hd ⟨by omega, by omega⟩
  refine o_cont hr hW fun w h' H' locs' hP hW' => ?_
  rw [o_toList]
  exact kn _ _ _ _ _ (hk3 w h' hP) p e R s0 m args below meth cd Q H' locs' (cells + mc) (slots + ms) ls hE hW' (by omega) (by omega) hl
theorem so_callI {M' : oM} {n index : Nat} (hM : o_Mf M' n) (hi1 : Cond.instanceMethod (mY M') ∈ o_TT) (hnm : (mY M').name = "<init>") (hrt : mR M' = none) (hl1 : Cond.methodLink (mY M).cls index (mY M') ∈ o_TT) (hD : mD M' < mD M) (hQ : 8 + (mL M' + 11) + mQ M' ≤ mQ M) (hd : decode (mC M) pc = .ok (.invokespecial index, 3)) (kn : oS G M Post (pc + 3) K) : oS G M Post pc (o_callI G M' n K) := by
  obtain ⟨y', cc', mL', ret', d', q'⟩ := M'
  have hrt : ret' = none := hrt
  subst hrt
  intro c s L st h hk2
  unfold o_callI at hk2
  split at hk2
  · rename_i a rest hst
    obtain ⟨hcat, mc, ms, P, hmc, hms, hMt, hk3⟩ := hk2
    intro p e R s0 m args below meth cd Q H locs cells slots ls hE hW hc hs hl
    have hts := hE.2.2.2.2.2.1
    have hSf := hE.2.2.2.2.2.2.2.2.1
    have hfr := hE.2.2.2.2.2.2.1
    have hlo := hE.2.2.2.2.2.2.2.1
    have hQ : 8 + (mL' + 11) + q' ≤ mQ M := hQ
    have hD : d' < mD M := hD
    have hR : d' + 1 ≤ R.frames ∧ 8 + (mL' + 11) + q' ≤ R.locals := ⟨by omega, by omega⟩
    have hlen : n < st.length := by
      rcases Nat.lt_or_ge n st.length with q | q
      · exact q
      · rw [List.drop_eq_nil_of_le q] at hst; cases hst
    have hstk : (F0 m pc ls (st.map (o_rl G))).stack = (((st.take n).reverse).map (o_rl G)).reverse ++ Value.ref (o_ad G a) :: rest.map (o_rl G) := by
      show st.map (o_rl G) = _
      rw [List.map_reverse, List.reverse_reverse]
      conv => lhs; rw [← List.take_append_drop n st, hst, List.map_append]
      rfl
    have hr := va_runI (H := H) (locs := locs) (cells := cells) (slots := slots) (e := e) (below := below) (meth := meth) (g := F0 m pc ls (st.map (o_rl G))) (n := n) ⟨hE.1, hE.2.1, hE.2.2.1, hE.2.2.2.1, hts⟩ hMt ⟨callB_of (ret := none) n hts (o_good hM.1) rfl rfl rfl (hts _ hM.2.1) (hts _ hl1) hM.2.2 hR, hnm, hts _ hi1⟩ (b := o_ad G a) (As := ((st.take n).reverse).map (o_rl G)) (rest := rest.map (o_rl G)) ⟨o_blind _ _ _, fun U hU hw => ⟨rfl, by rw [hU]; exact hW.forget, hSf.warm hw⟩⟩ rfl (by rw [List.length_map, List.length_reverse, List.length_take]; omega) hl.1 hstk (lv_room (by rw [o_catsum]; exact hcat)) hd ⟨by omega, by omega⟩
    refine o_cont hr hW fun w h' H' locs' hP hW' => ?_
    rw [o_toList]
    exact kn _ _ _ _ _ (hk3 w h' hP) p e R s0 m args below meth cd Q H' locs' (cells + mc) (slots + ms) ls hE hW' (by omega) (by omega) hl
  · exact hk2.elim
theorem so_callV {M' : oM} {ci n index N : Nat} {T : u_T} {ty : Nat → FieldType} (hC : o_Cl ci (mY M').cls T N ty) (hM : o_Mf M' n) (hi1 : Cond.instanceMethod (mY M') ∈ o_TT) (hse : Cond.selects (mY M').cls (mY M') (mY M') ∈ o_TT) (hl1 : Cond.methodLink (mY M).cls index (mY M') ∈ o_TT) (hD : mD M' < mD M) (hQ : 8 + (mL M' + 11) + mQ M' ≤ mQ M) (hd : decode (mC M) pc = .ok (.invokevirtual index, 3)) (kn : oS G M Post (pc + 3) K) : oS G M Post pc (o_callV G ci M' n K) := by
  intro c s L st h hk2
  unfold o_callV at hk2
  split at hk2
  · split at hk2
    · rename_i v rest hst _ cj fs hg
      obtain ⟨rfl, hcat, mc, ms, P, hmc, hms, hMt, hk3⟩ := hk2
      obtain ⟨a, rfl, ha⟩ := o_get_spec hg
      intro p e R s0 m args below meth cd Q H locs cells slots ls hE hW hc hs hl
      have hts := hE.2.2.2.2.2.1
      have hSf := hE.2.2.2.2.2.2.2.2.1
      have hfr := hE.2.2.2.2.2.2.1
      have hlo := hE.2.2.2.2.2.2.2.1
      have hR : (mRm M' mc ms).frames + 1 ≤ R.frames ∧ 8 + (mL M' + 11) + (mRm M' mc ms).locals ≤ R.locals := ⟨by show mD M' + 1 ≤ _; omega, by show 8 + (mL M' + 11) + mQ M' ≤ _; omega⟩
      have hlen : n < st.length := by
        rcases Nat.lt_or_ge n st.length with q | q
        · exact q
        · rw [List.drop_eq_nil_of_le q] at hst; cases hst
      have hstk : (F0 m pc ls (st.map (o_rl G))).stack = (((st.take n).reverse).map (o_rl G)).reverse ++ Value.ref ((gH G).size + a) :: rest.map (o_rl G) := by
        show st.map (o_rl G) = _
        rw [List.map_reverse, List.reverse_reverse]
        conv => lhs; rw [← List.take_append_drop n st, hst, List.map_append]
        rfl
      have hr := va_runV (H := H) (locs := locs) (cells := cells) (slots := slots) (e := e) (below := below) (meth := meth) (g := F0 m pc ls (st.map (o_rl G))) (n := n) (C := (mY M').cls) ⟨hE.1, hE.2.1, hE.2.2.1, hE.2.2.2.1, hts⟩ hMt ⟨callB_of n hts (o_good hM.1) rfl rfl rfl (hts _ hM.2.1) (hts _ hl1) hM.2.2 hR, hts _ hi1, hts _ hse⟩ (b := (gH G).size + a) (As := ((st.take n).reverse).map (o_rl G)) (rest := rest.map (o_rl G)) ⟨o_blind _ _ _, va_recv hSf.1 hW.1 hC.1 (o_ws_at ha), fun U hU hw => ⟨rfl, by rw [hU]; exact hW.forget, hSf.warm hw⟩⟩ rfl (by rw [List.length_map, List.length_reverse, List.length_take]; omega) hl.1 hstk (lv_room (by rw [o_catsum]; exact hcat)) hd ⟨by omega, by omega⟩
      refine o_cont hr hW fun w h' H' locs' hP hW' => ?_
      rw [o_toList]
      exact kn _ _ _ _ _ (hk3 w h' hP) p e R s0 m args below meth cd Q H' locs' (cells + mc) (slots + ms) ls hE hW' (by omega) (by omega) hl
    · exact hk2.elim
  · exact hk2.elim
theorem so_callSN {M' : oM} {n index : Nat} (hM : o_Mf M' n) (hst1 : Cond.static (mY M') ∈ o_TT) {host : String} (hl1 : Cond.methodLinkNest (mY M).cls index (mY M') host ∈ o_NW) (hD : mD M' < mD M) (hQ : 8 + (mL M' + 11) + mQ M' ≤ mQ M) (hd : decode (mC M) pc = .ok (.invokestatic index, 3)) (kn : oS G M Post (pc + 3) K) : oS G M Post pc (o_callS G M' n K) := by
  intro c s L st h hk2
  obtain ⟨hn, hcat, mc, ms, P, hmc, hms, hMt, hk3⟩ := hk2
  intro p e R s0 m args below meth cd Q H locs cells slots ls hE hW hc hs hl
  have hts := hE.2.2.2.2.2.1
  have hSf := hE.2.2.2.2.2.2.2.2.1
  have hfr := hE.2.2.2.2.2.2.1
  have hlo := hE.2.2.2.2.2.2.2.1
  have hR : (mRm M' mc ms).frames + 1 ≤ R.frames ∧ 8 + (mL M' + 11) + (mRm M' mc ms).locals ≤ R.locals := ⟨by show mD M' + 1 ≤ _; omega, by show 8 + (mL M' + 11) + mQ M' ≤ _; omega⟩
  have hstk : (F0 m pc ls (st.map (o_rl G))).stack = (((st.take n).reverse).map (o_rl G)).reverse ++ (st.drop n).map (o_rl G) := by
    show st.map (o_rl G) = _
    rw [List.map_reverse, List.reverse_reverse, ← List.map_append, List.take_append_drop]
  have hr := va_runSN (H := H) (locs := locs) (cells := cells) (slots := slots) (e := e) (below := below) (meth := meth) (g := F0 m pc ls (st.map (o_rl G))) (n := n) ⟨hE.1, hE.2.1, hE.2.2.1, hE.2.2.2.1, hts⟩ hMt ⟨va_cnB n hts (o_good hM.1) rfl rfl rfl (hE.2.2.2.2.2.2.2.2.1.2.2.2.1 _ hl1) (hts _ hM.2.1) hM.2.2 hR, hts _ hst1, trivial⟩ (As := ((st.take n).reverse).map (o_rl G)) (rest := (st.drop n).map (o_rl G)) ⟨o_blind _ _ _, fun U hU hw => ⟨rfl, by rw [hU]; exact hW.forget, hSf.warm hw⟩⟩ rfl (by rw [List.length_map, List.length_reverse, List.length_take]; omega) hl.1 hstk (lv_room (by rw [o_catsum]; exact hcat)) hd ⟨by omega, by omega⟩
  refine o_cont hr hW fun w h' H' locs' hP hW' => ?_
  rw [o_toList]
  exact kn _ _ _ _ _ (hk3 w h' hP) p e R s0 m args below meth cd Q H' locs' (cells + mc) (slots + ms) ls hE hW' (by omega) (by omega) hl
theorem so_callIN {M' : oM} {n index : Nat} (hM : o_Mf M' n) (hi1 : Cond.instanceMethod (mY M') ∈ o_TT) (hnm : (mY M').name = "<init>") (hrt : mR M' = none) {host : String} (hl1 : Cond.methodLinkNest (mY M).cls index (mY M') host ∈ o_NW) (hD : mD M' < mD M) (hQ : 8 + (mL M' + 11) + mQ M' ≤ mQ M) (hd : decode (mC M) pc = .ok (.invokespecial index, 3)) (kn : oS G M Post (pc + 3) K) : oS G M Post pc (o_callI G M' n K) := by
  obtain ⟨y', cc', mL', ret', d', q'⟩ := M'
  have hrt : ret' = none := hrt
  subst hrt
  intro c s L st h hk2
  unfold o_callI at hk2
  split at hk2
  · rename_i a rest hst
    obtain ⟨hcat, mc, ms, P, hmc, hms, hMt, hk3⟩ := hk2
    intro p e R s0 m args below meth cd Q H locs cells slots ls hE hW hc hs hl
    have hts := hE.2.2.2.2.2.1
    have hSf := hE.2.2.2.2.2.2.2.2.1
    have hfr := hE.2.2.2.2.2.2.1
    have hlo := hE.2.2.2.2.2.2.2.1
    have hQ : 8 + (mL' + 11) + q' ≤ mQ M := hQ
    have hD : d' < mD M := hD
    have hR : d' + 1 ≤ R.frames ∧ 8 + (mL' + 11) + q' ≤ R.locals := ⟨by omega, by omega⟩
    have hlen : n < st.length := by
      rcases Nat.lt_or_ge n st.length with q | q
      · exact q
      · rw [List.drop_eq_nil_of_le q] at hst; cases hst
    have hstk : (F0 m pc ls (st.map (o_rl G))).stack = (((st.take n).reverse).map (o_rl G)).reverse ++ Value.ref (o_ad G a) :: rest.map (o_rl G) := by
      show st.map (o_rl G) = _
      rw [List.map_reverse, List.reverse_reverse]
      conv => lhs; rw [← List.take_append_drop n st, hst, List.map_append]
      rfl
    have hr := va_runIN (H := H) (locs := locs) (cells := cells) (slots := slots) (e := e) (below := below) (meth := meth) (g := F0 m pc ls (st.map (o_rl G))) (n := n) ⟨hE.1, hE.2.1, hE.2.2.1, hE.2.2.2.1, hts⟩ hMt ⟨va_cnB (ret := none) n hts (o_good hM.1) rfl rfl rfl (hE.2.2.2.2.2.2.2.2.1.2.2.2.1 _ hl1) (hts _ hM.2.1) hM.2.2 hR, hnm, hts _ hi1⟩ (b := o_ad G a) (As := ((st.take n).reverse).map (o_rl G)) (rest := rest.map (o_rl G)) ⟨o_blind _ _ _, fun U hU hw => ⟨rfl, by rw [hU]; exact hW.forget, hSf.warm hw⟩⟩ rfl (by rw [List.length_map, List.length_reverse, List.length_take]; omega) hl.1 hstk (lv_room (by rw [o_catsum]; exact hcat)) hd ⟨by omega, by omega⟩
    refine o_cont hr hW fun w h' H' locs' hP hW' => ?_
    rw [o_toList]
    exact kn _ _ _ _ _ (hk3 w h' hP) p e R s0 m args below meth cd Q H' locs' (cells + mc) (slots + ms) ls hE hW' (by omega) (by omega) hl
  · exact hk2.elim
theorem so_callVN {M' : oM} {ci n index N : Nat} {T : u_T} {ty : Nat → FieldType} (hC : o_Cl ci (mY M').cls T N ty) (hM : o_Mf M' n) (hi1 : Cond.instanceMethod (mY M') ∈ o_TT) (hse : Cond.selects (mY M').cls (mY M') (mY M') ∈ o_TT) {host : String} (hl1 : Cond.methodLinkNest (mY M).cls index (mY M') host ∈ o_NW) (hD : mD M' < mD M) (hQ : 8 + (mL M' + 11) + mQ M' ≤ mQ M) (hd : decode (mC M) pc = .ok (.invokevirtual index, 3)) (kn : oS G M Post (pc + 3) K) : oS G M Post pc (o_callV G ci M' n K) := by
  intro c s L st h hk2
  unfold o_callV at hk2
  split at hk2
  · split at hk2
    · rename_i v rest hst _ cj fs hg
      obtain ⟨rfl, hcat, mc, ms, P, hmc, hms, hMt, hk3⟩ := hk2
      obtain ⟨a, rfl, ha⟩ := o_get_spec hg
      intro p e R s0 m args below meth cd Q H locs cells slots ls hE hW hc hs hl
      have hts := hE.2.2.2.2.2.1
      have hSf := hE.2.2.2.2.2.2.2.2.1
      have hfr := hE.2.2.2.2.2.2.1
      have hlo := hE.2.2.2.2.2.2.2.1
      have hR : (mRm M' mc ms).frames + 1 ≤ R.frames ∧ 8 + (mL M' + 11) + (mRm M' mc ms).locals ≤ R.locals := ⟨by show mD M' + 1 ≤ _; omega, by show 8 + (mL M' + 11) + mQ M' ≤ _; omega⟩
      have hlen : n < st.length := by
        rcases Nat.lt_or_ge n st.length with q | q
        · exact q
        · rw [List.drop_eq_nil_of_le q] at hst; cases hst
      have hstk : (F0 m pc ls (st.map (o_rl G))).stack = (((st.take n).reverse).map (o_rl G)).reverse ++ Value.ref ((gH G).size + a) :: rest.map (o_rl G) := by
        show st.map (o_rl G) = _
        rw [List.map_reverse, List.reverse_reverse]
        conv => lhs; rw [← List.take_append_drop n st, hst, List.map_append]
        rfl
      have hr := va_runVN (H := H) (locs := locs) (cells := cells) (slots := slots) (e := e) (below := below) (meth := meth) (g := F0 m pc ls (st.map (o_rl G))) (n := n) (C := (mY M').cls) ⟨hE.1, hE.2.1, hE.2.2.1, hE.2.2.2.1, hts⟩ hMt ⟨va_cnB n hts (o_good hM.1) rfl rfl rfl (hE.2.2.2.2.2.2.2.2.1.2.2.2.1 _ hl1) (hts _ hM.2.1) hM.2.2 hR, hts _ hi1, hts _ hse⟩ (b := (gH G).size + a) (As := ((st.take n).reverse).map (o_rl G)) (rest := rest.map (o_rl G)) ⟨o_blind _ _ _, va_recv hSf.1 hW.1 hC.1 (o_ws_at ha), fun U hU hw => ⟨rfl, by rw [hU]; exact hW.forget, hSf.warm hw⟩⟩ rfl (by rw [List.length_map, List.length_reverse, List.length_take]; omega) hl.1 hstk (lv_room (by rw [o_catsum]; exact hcat)) hd ⟨by omega, by omega⟩
      refine o_cont hr hW fun w h' H' locs' hP hW' => ?_
      rw [o_toList]
      exact kn _ _ _ _ _ (hk3 w h' hP) p e R s0 m args below meth cd Q H' locs' (cells + mc) (slots + ms) ls hE hW' (by omega) (by omega) hl
    · exact hk2.elim
  · exact hk2.elim
def o_objInit (K : oK) : oK := fun c s L st h => match st with
  | .ref _ :: r => (r.map Value.category).sum ≤ 8 ∧ K c s L r h
  | _ => False
theorem so_objInit {index : Nat} (h1 : Cond.methodLink (mY M).cls index Lib.objectInit ∈ o_TT) (h2 : Cond.instanceMethod Lib.objectInit ∈ o_TT) (h3 : Cond.code Lib.objectInit ⟨#[0xb1]⟩ 1 none ∈ o_TT) (hD : 1 ≤ mD M) (hQ : 20 ≤ mQ M) (hd : decode (mC M) pc = .ok (.invokespecial index, 3)) (kn : oS G M Post (pc + 3) K) : oS G M Post pc (o_objInit K) := by
  intro c s L st h hk2
  unfold o_objInit at hk2
  split at hk2
  · rename_i a r
    intro p e R s0 m args below meth cd Q H locs cells slots ls hE hW hc hs hl
    have hts := hE.2.2.2.2.2.1
    have hfr := hE.2.2.2.2.2.2.1
    have hlo := hE.2.2.2.2.2.2.2.1
    have hcat := o_catsum G r
    have h8 := hk2.1
    exact W.objInit hE.1 hE.2.1 hE.2.2.2.1 (hts _ h1) (hts _ h2) (hts _ h3) rfl (by rw [hE.2.2.1]; exact hl.1) rfl hd (by omega) (by show 2 * 0 + _ + 12 ≤ _; omega) (kn _ _ _ _ _ hk2.2 p e R s0 m args below meth cd Q H locs cells slots ls hE hW hc hs hl)
  · exact hk2.elim
theorem o_rL_args (G : oG) (as : List Value) : ∀ i : Nat, lv_args i (as.map (o_rl G)) = o_rL G (lv_args i as) := by
  induction as with
  | nil => intro i; rfl
  | cons v r ih =>
    intro i
    simp only [List.map_cons, lv_args, o_cat, ih, o_rL]
theorem o_sl_len (G : oG) (as : List Value) : (lg_sl (as.map (o_rl G))).length = (lg_sl as).length := by
  induction as with
  | nil => rfl
  | cons v r ih =>
    have e : lg_sl (v :: r) = (if v.category = 2 then [.val v, .second] else [.val v]) ++ lg_sl r := by simp [lg_sl]
    have e2 : lg_sl ((v :: r).map (o_rl G)) = (if (o_rl G v).category = 2 then [.val (o_rl G v), .second] else [.val (o_rl G v)]) ++ lg_sl (r.map (o_rl G)) := by simp [lg_sl]
    rw [e, e2, List.length_append, List.length_append, ih, o_cat]
    by_cases h : v.category = 2 <;> simp [h]
/-- the contract out of the walk of the body -/
theorem Mt.of {as : List Value} {h : oH} {mc ms : Nat} (hy : plainName (mY M).cls = true) (hlen : (lg_sl as).length ≤ mL M) (k : Wp G M Post 0 mc ms (lv_args 0 as) [] h) : Mt G M as h mc ms Post := by
  refine Met.ofW (cc := mC M) (maxL := mL M) (ret := mR M) hy rfl ?_
  intro p e s m args below meth cd s₁ B hml hv
  obtain ⟨rfl, hW, hSf⟩ := hv
  have hl := lv_entry (as.map (o_rl G)) (n := mL M) (by rw [o_sl_len]; exact hlen)
  rw [lg_entry_eq]
  generalize (lg_sl (as.map (o_rl G)) ++ List.replicate (mL M - (lg_sl (as.map (o_rl G))).length) Slot.unset).toArray = ls at hl ⊢
  refine k p e _ s m _ below meth cd _ s.heap [] 0 0 ls ⟨B.exec, B.bytes, hml, findClass_of_methodNamed B.named, (name_of_methodNamed B.named B.method).1, fun w hw => atoms_spec (ws := mW M :: o_TT) B.pre w (List.mem_cons_of_mem _ hw), Nat.le_refl _, Nat.le_refl _, hSf, ?_⟩ hW (by show 0 + mc ≤ mc; omega) (by show 0 + ms ≤ ms; omega) (by rw [← o_rL_args]; exact hl)
  intro v h' H locs ls' pc cells slots hP hW' hc hs hr
  refine W.widen hc hs ?_
  unfold o_rets at hr
  split at hr
  · exact W.vret B.exec B.bytes (B.returns.trans hr.1) (fun t ht hw => ⟨none, h', hP, rfl, by rw [ht]; exact hW'.forget⟩) hW'.2.2.1.2.2 hr.2
  · rename_i x
    obtain ⟨⟨ty, h1, h2⟩, h3⟩ := hr
    exact W.zret B.exec B.bytes (B.returns.trans h1) h2 (fun t ht hw => ⟨some (.int x), h', hP, rfl, by rw [ht]; exact hW'.forget⟩) hW'.2.2.1.2.2 h3
  · rename_i x
    exact W.lret B.exec B.bytes (B.returns.trans hr.1) (fun t ht hw => ⟨some (.long x), h', hP, rfl, by rw [ht]; exact hW'.forget⟩) hW'.2.2.1.2.2 hr.2
  · exact hr.elim
end OC
end
section
/-! Words, methods and kinds of objects of this claim, by program. -/
theorem w_0 : Cond.selects "TrapGate" ⟨"TrapGate", "serve", "(II)I"⟩ ⟨"TrapGate", "serve", "(II)I"⟩ ∈ o_TT := o_inT 0 (by decide +kernel) (by decide +kernel)
theorem w_1 : Cond.selects "TrapGate" ⟨"TrapGate", "open", "(III)I"⟩ ⟨"TrapGate", "open", "(III)I"⟩ ∈ o_TT := o_inT 1 (by decide +kernel) (by decide +kernel)
theorem w_2 : Cond.selects "TrapGate" ⟨"TrapGate", "leastFreeFile", "()I"⟩ ⟨"TrapGate", "leastFreeFile", "()I"⟩ ∈ o_TT := o_inT 2 (by decide +kernel) (by decide +kernel)
theorem w_3 : Cond.selects "TrapGate" ⟨"TrapGate", "isFileThere", "(I)Z"⟩ ⟨"TrapGate", "isFileThere", "(I)Z"⟩ ∈ o_TT := o_inT 3 (by decide +kernel) (by decide +kernel)
theorem w_4 : Cond.selects "TrapGate" ⟨"TrapGate", "close", "(II)I"⟩ ⟨"TrapGate", "close", "(II)I"⟩ ∈ o_TT := o_inT 4 (by decide +kernel) (by decide +kernel)
theorem w_5 : Cond.selects "TrapGate" ⟨"TrapGate", "transfer", "(IIIII)I"⟩ ⟨"TrapGate", "transfer", "(IIIII)I"⟩ ∈ o_TT := o_inT 5 (by decide +kernel) (by decide +kernel)
theorem w_6 : Cond.selects "TrapGate" ⟨"TrapGate", "readOpen", "(II)I"⟩ ⟨"TrapGate", "readOpen", "(II)I"⟩ ∈ o_TT := o_inT 6 (by decide +kernel) (by decide +kernel)
theorem w_7 : Cond.selects "TrapGate" ⟨"TrapGate", "takeFromPipe", "(II)I"⟩ ⟨"TrapGate", "takeFromPipe", "(II)I"⟩ ∈ o_TT := o_inT 7 (by decide +kernel) (by decide +kernel)
theorem w_8 : Cond.selects "TrapGate" ⟨"TrapGate", "takeFromFile", "(II)I"⟩ ⟨"TrapGate", "takeFromFile", "(II)I"⟩ ∈ o_TT := o_inT 8 (by decide +kernel) (by decide +kernel)
theorem w_9 : Cond.selects "TrapGate" ⟨"TrapGate", "scatter", "(II)V"⟩ ⟨"TrapGate", "scatter", "(II)V"⟩ ∈ o_TT := o_inT 9 (by decide +kernel) (by decide +kernel)
theorem w_10 : Cond.selects "TrapGate" ⟨"TrapGate", "writeOpen", "(II)I"⟩ ⟨"TrapGate", "writeOpen", "(II)I"⟩ ∈ o_TT := o_inT 10 (by decide +kernel) (by decide +kernel)
theorem w_11 : Cond.selects "TrapGate" ⟨"TrapGate", "gather", "(II)V"⟩ ⟨"TrapGate", "gather", "(II)V"⟩ ∈ o_TT := o_inT 11 (by decide +kernel) (by decide +kernel)
theorem w_12 : Cond.selects "TrapGate" ⟨"TrapGate", "putInPipe", "(II)I"⟩ ⟨"TrapGate", "putInPipe", "(II)I"⟩ ∈ o_TT := o_inT 12 (by decide +kernel) (by decide +kernel)
theorem w_13 : Cond.selects "TrapGate" ⟨"TrapGate", "putInFile", "(II)I"⟩ ⟨"TrapGate", "putInFile", "(II)I"⟩ ∈ o_TT := o_inT 13 (by decide +kernel) (by decide +kernel)
theorem w_14 : Cond.selects "TrapGate" ⟨"TrapGate", "seek", "(III)I"⟩ ⟨"TrapGate", "seek", "(III)I"⟩ ∈ o_TT := o_inT 14 (by decide +kernel) (by decide +kernel)
theorem w_15 : Cond.selects "TrapGate" ⟨"TrapGate", "duplicate", "(II)I"⟩ ⟨"TrapGate", "duplicate", "(II)I"⟩ ∈ o_TT := o_inT 15 (by decide +kernel) (by decide +kernel)
theorem w_16 : Cond.selects "TrapGate" ⟨"TrapGate", "unlink", "(II)I"⟩ ⟨"TrapGate", "unlink", "(II)I"⟩ ∈ o_TT := o_inT 16 (by decide +kernel) (by decide +kernel)
theorem w_17 : Cond.selects "TrapGate" ⟨"TrapGate", "link", "(III)I"⟩ ⟨"TrapGate", "link", "(III)I"⟩ ∈ o_TT := o_inT 17 (by decide +kernel) (by decide +kernel)
theorem w_18 : Cond.selects "TrapGate" ⟨"TrapGate", "stat", "(III)I"⟩ ⟨"TrapGate", "stat", "(III)I"⟩ ∈ o_TT := o_inT 18 (by decide +kernel) (by decide +kernel)
theorem w_19 : Cond.selects "TrapGate" ⟨"TrapGate", "makePipe", "(II)I"⟩ ⟨"TrapGate", "makePipe", "(II)I"⟩ ∈ o_TT := o_inT 19 (by decide +kernel) (by decide +kernel)
theorem w_20 : Cond.selects "TrapGate" ⟨"TrapGate", "leastFreePipe", "()I"⟩ ⟨"TrapGate", "leastFreePipe", "()I"⟩ ∈ o_TT := o_inT 20 (by decide +kernel) (by decide +kernel)
theorem w_21 : Cond.selects "TrapGate" ⟨"TrapGate", "isPipeThere", "(I)Z"⟩ ⟨"TrapGate", "isPipeThere", "(I)Z"⟩ ∈ o_TT := o_inT 21 (by decide +kernel) (by decide +kernel)
theorem w_22 : Cond.selects "TrapGate" ⟨"TrapGate", "list", "(III)I"⟩ ⟨"TrapGate", "list", "(III)I"⟩ ∈ o_TT := o_inT 22 (by decide +kernel) (by decide +kernel)
theorem w_23 : Cond.selects "TrapGate" ⟨"TrapGate", "copy", "(IIII)I"⟩ ⟨"TrapGate", "copy", "(IIII)I"⟩ ∈ o_TT := o_inT 23 (by decide +kernel) (by decide +kernel)
theorem w_24 : Cond.selects "TrapGate" ⟨"TrapGate", "protect", "(III)I"⟩ ⟨"TrapGate", "protect", "(III)I"⟩ ∈ o_TT := o_inT 24 (by decide +kernel) (by decide +kernel)
theorem w_25 : Cond.selects "TrapGate" ⟨"TrapGate", "transferRanges", "(IIIII)I"⟩ ⟨"TrapGate", "transferRanges", "(IIIII)I"⟩ ∈ o_TT := o_inT 25 (by decide +kernel) (by decide +kernel)
theorem w_26 : Cond.selects "TrapGate" ⟨"TrapGate", "takeRanges", "(IIII)Z"⟩ ⟨"TrapGate", "takeRanges", "(IIII)Z"⟩ ∈ o_TT := o_inT 26 (by decide +kernel) (by decide +kernel)
theorem w_27 : Cond.selects "TrapGate" ⟨"TrapGate", "rename", "(III)I"⟩ ⟨"TrapGate", "rename", "(III)I"⟩ ∈ o_TT := o_inT 27 (by decide +kernel) (by decide +kernel)
theorem w_28 : Cond.selects "TrapGate" ⟨"TrapGate", "filesThere", "()I"⟩ ⟨"TrapGate", "filesThere", "()I"⟩ ∈ o_TT := o_inT 28 (by decide +kernel) (by decide +kernel)
theorem w_29 : Cond.selects "TrapGate" ⟨"TrapGate", "pipesThere", "()I"⟩ ⟨"TrapGate", "pipesThere", "()I"⟩ ∈ o_TT := o_inT 29 (by decide +kernel) (by decide +kernel)
theorem w_30 : Cond.selects "TrapGateModel" ⟨"TrapGateModel", "first", "(I)I"⟩ ⟨"TrapGateModel", "first", "(I)I"⟩ ∈ o_TT := o_inT 30 (by decide +kernel) (by decide +kernel)
theorem w_31 : Cond.selects "TrapGateModel" ⟨"TrapGateModel", "open", "()I"⟩ ⟨"TrapGateModel", "open", "()I"⟩ ∈ o_TT := o_inT 31 (by decide +kernel) (by decide +kernel)
theorem w_32 : Cond.selects "TrapGateModel" ⟨"TrapGateModel", "string", "(II)Z"⟩ ⟨"TrapGateModel", "string", "(II)Z"⟩ ∈ o_TT := o_inT 32 (by decide +kernel) (by decide +kernel)
theorem w_33 : Cond.selects "TrapGateModel" ⟨"TrapGateModel", "place", "(II)I"⟩ ⟨"TrapGateModel", "place", "(II)I"⟩ ∈ o_TT := o_inT 33 (by decide +kernel) (by decide +kernel)
theorem w_34 : Cond.selects "TrapGateModel" ⟨"TrapGateModel", "name", "(I)I"⟩ ⟨"TrapGateModel", "name", "(I)I"⟩ ∈ o_TT := o_inT 34 (by decide +kernel) (by decide +kernel)
theorem w_35 : Cond.selects "TrapGateModel" ⟨"TrapGateModel", "isName", "(II)Z"⟩ ⟨"TrapGateModel", "isName", "(II)Z"⟩ ∈ o_TT := o_inT 35 (by decide +kernel) (by decide +kernel)
theorem w_36 : Cond.selects "TrapGateModel" ⟨"TrapGateModel", "freeDescriptor", "()I"⟩ ⟨"TrapGateModel", "freeDescriptor", "()I"⟩ ∈ o_TT := o_inT 36 (by decide +kernel) (by decide +kernel)
theorem w_37 : Cond.selects "TrapGateModel" ⟨"TrapGateModel", "freeOpen", "()I"⟩ ⟨"TrapGateModel", "freeOpen", "()I"⟩ ∈ o_TT := o_inT 37 (by decide +kernel) (by decide +kernel)
theorem w_38 : Cond.selects "TrapGateModel" ⟨"TrapGateModel", "freeFile", "()I"⟩ ⟨"TrapGateModel", "freeFile", "()I"⟩ ∈ o_TT := o_inT 38 (by decide +kernel) (by decide +kernel)
theorem w_39 : Cond.selects "TrapGateModel" ⟨"TrapGateModel", "freeName", "()I"⟩ ⟨"TrapGateModel", "freeName", "()I"⟩ ∈ o_TT := o_inT 39 (by decide +kernel) (by decide +kernel)
theorem w_40 : Cond.selects "TrapGateModel" ⟨"TrapGateModel", "give", "(III)V"⟩ ⟨"TrapGateModel", "give", "(III)V"⟩ ∈ o_TT := o_inT 40 (by decide +kernel) (by decide +kernel)
theorem w_41 : Cond.selects "TrapGateModel" ⟨"TrapGateModel", "newOpen", "(IIII)I"⟩ ⟨"TrapGateModel", "newOpen", "(IIII)I"⟩ ∈ o_TT := o_inT 41 (by decide +kernel) (by decide +kernel)
theorem w_42 : Cond.selects "TrapGateModel" ⟨"TrapGateModel", "close", "()I"⟩ ⟨"TrapGateModel", "close", "()I"⟩ ∈ o_TT := o_inT 42 (by decide +kernel) (by decide +kernel)
theorem w_43 : Cond.selects "TrapGateModel" ⟨"TrapGateModel", "opened", "()I"⟩ ⟨"TrapGateModel", "opened", "()I"⟩ ∈ o_TT := o_inT 43 (by decide +kernel) (by decide +kernel)
theorem w_44 : Cond.selects "TrapGateModel" ⟨"TrapGateModel", "transfer", "(ZZ)I"⟩ ⟨"TrapGateModel", "transfer", "(ZZ)I"⟩ ∈ o_TT := o_inT 44 (by decide +kernel) (by decide +kernel)
theorem w_45 : Cond.selects "TrapGateModel" ⟨"TrapGateModel", "gather", "(ZZ)Z"⟩ ⟨"TrapGateModel", "gather", "(ZZ)Z"⟩ ∈ o_TT := o_inT 45 (by decide +kernel) (by decide +kernel)
theorem w_46 : Cond.selects "TrapGateModel" ⟨"TrapGateModel", "range", "(III)Z"⟩ ⟨"TrapGateModel", "range", "(III)Z"⟩ ∈ o_TT := o_inT 46 (by decide +kernel) (by decide +kernel)
theorem w_47 : Cond.selects "TrapGateModel" ⟨"TrapGateModel", "take", "()V"⟩ ⟨"TrapGateModel", "take", "()V"⟩ ∈ o_TT := o_inT 47 (by decide +kernel) (by decide +kernel)
theorem w_48 : Cond.selects "TrapGateModel" ⟨"TrapGateModel", "toFile", "(I)I"⟩ ⟨"TrapGateModel", "toFile", "(I)I"⟩ ∈ o_TT := o_inT 48 (by decide +kernel) (by decide +kernel)
theorem w_49 : Cond.selects "TrapGateModel" ⟨"TrapGateModel", "toPipe", "(I)I"⟩ ⟨"TrapGateModel", "toPipe", "(I)I"⟩ ∈ o_TT := o_inT 49 (by decide +kernel) (by decide +kernel)
theorem w_50 : Cond.selects "TrapGateModel" ⟨"TrapGateModel", "opensOf", "(II)I"⟩ ⟨"TrapGateModel", "opensOf", "(II)I"⟩ ∈ o_TT := o_inT 50 (by decide +kernel) (by decide +kernel)
theorem w_51 : Cond.selects "TrapGateModel" ⟨"TrapGateModel", "fromFile", "(I)I"⟩ ⟨"TrapGateModel", "fromFile", "(I)I"⟩ ∈ o_TT := o_inT 51 (by decide +kernel) (by decide +kernel)
theorem w_52 : Cond.selects "TrapGateModel" ⟨"TrapGateModel", "fromPipe", "(I)I"⟩ ⟨"TrapGateModel", "fromPipe", "(I)I"⟩ ∈ o_TT := o_inT 52 (by decide +kernel) (by decide +kernel)
theorem w_53 : Cond.selects "TrapGateModel" ⟨"TrapGateModel", "seek", "()I"⟩ ⟨"TrapGateModel", "seek", "()I"⟩ ∈ o_TT := o_inT 53 (by decide +kernel) (by decide +kernel)
theorem w_54 : Cond.selects "TrapGateModel" ⟨"TrapGateModel", "dup", "()I"⟩ ⟨"TrapGateModel", "dup", "()I"⟩ ∈ o_TT := o_inT 54 (by decide +kernel) (by decide +kernel)
theorem w_55 : Cond.selects "TrapGateModel" ⟨"TrapGateModel", "unlink", "()I"⟩ ⟨"TrapGateModel", "unlink", "()I"⟩ ∈ o_TT := o_inT 55 (by decide +kernel) (by decide +kernel)
theorem w_56 : Cond.selects "TrapGateModel" ⟨"TrapGateModel", "second", "(I)I"⟩ ⟨"TrapGateModel", "second", "(I)I"⟩ ∈ o_TT := o_inT 56 (by decide +kernel) (by decide +kernel)
theorem w_57 : Cond.selects "TrapGateModel" ⟨"TrapGateModel", "link", "()I"⟩ ⟨"TrapGateModel", "link", "()I"⟩ ∈ o_TT := o_inT 57 (by decide +kernel) (by decide +kernel)
theorem w_58 : Cond.selects "TrapGateModel" ⟨"TrapGateModel", "strings", "()Z"⟩ ⟨"TrapGateModel", "strings", "()Z"⟩ ∈ o_TT := o_inT 58 (by decide +kernel) (by decide +kernel)
theorem w_59 : Cond.selects "TrapGateModel" ⟨"TrapGateModel", "stat", "()I"⟩ ⟨"TrapGateModel", "stat", "()I"⟩ ∈ o_TT := o_inT 59 (by decide +kernel) (by decide +kernel)
theorem w_60 : Cond.selects "TrapGateModel" ⟨"TrapGateModel", "namesOf", "(I)I"⟩ ⟨"TrapGateModel", "namesOf", "(I)I"⟩ ∈ o_TT := o_inT 60 (by decide +kernel) (by decide +kernel)
theorem w_61 : Cond.selects "TrapGateModel" ⟨"TrapGateModel", "pipes", "()I"⟩ ⟨"TrapGateModel", "pipes", "()I"⟩ ∈ o_TT := o_inT 61 (by decide +kernel) (by decide +kernel)
theorem w_62 : Cond.selects "TrapGateModel" ⟨"TrapGateModel", "list", "()I"⟩ ⟨"TrapGateModel", "list", "()I"⟩ ∈ o_TT := o_inT 62 (by decide +kernel) (by decide +kernel)
theorem w_63 : Cond.selects "TrapGateModel" ⟨"TrapGateModel", "before", "(II)Z"⟩ ⟨"TrapGateModel", "before", "(II)Z"⟩ ∈ o_TT := o_inT 63 (by decide +kernel) (by decide +kernel)
theorem w_64 : Cond.selects "TrapGateModel" ⟨"TrapGateModel", "copy", "()I"⟩ ⟨"TrapGateModel", "copy", "()I"⟩ ∈ o_TT := o_inT 64 (by decide +kernel) (by decide +kernel)
theorem w_65 : Cond.selects "TrapGateModel" ⟨"TrapGateModel", "protect", "()I"⟩ ⟨"TrapGateModel", "protect", "()I"⟩ ∈ o_TT := o_inT 65 (by decide +kernel) (by decide +kernel)
theorem w_66 : Cond.selects "TrapGateModel" ⟨"TrapGateModel", "rename", "()I"⟩ ⟨"TrapGateModel", "rename", "()I"⟩ ∈ o_TT := o_inT 66 (by decide +kernel) (by decide +kernel)
theorem w_67 : Cond.selects "TrapGateModel" ⟨"TrapGateModel", "sweep", "()V"⟩ ⟨"TrapGateModel", "sweep", "()V"⟩ ∈ o_TT := o_inT 67 (by decide +kernel) (by decide +kernel)
theorem w_69 : Cond.initialized "TrapGate" ∈ o_TT := o_inT 69 (by decide +kernel) (by decide +kernel)
theorem w_70 : Cond.initialized "TrapGate$Memory" ∈ o_TT := o_inT 70 (by decide +kernel) (by decide +kernel)
theorem w_71 : Cond.initialized "java/util/Arrays" ∈ o_TT := o_inT 71 (by decide +kernel) (by decide +kernel)
theorem w_72 : Cond.initialized "TrapGate$Names" ∈ o_TT := o_inT 72 (by decide +kernel) (by decide +kernel)
theorem w_73 : Cond.initialized "TrapGate$Opens" ∈ o_TT := o_inT 73 (by decide +kernel) (by decide +kernel)
theorem w_74 : Cond.initialized "TrapGate$Ranges" ∈ o_TT := o_inT 74 (by decide +kernel) (by decide +kernel)
theorem w_75 : Cond.initialized "TrapGate$StoredFile" ∈ o_TT := o_inT 75 (by decide +kernel) (by decide +kernel)
theorem w_76 : Cond.initialized "TrapGate$Pipe" ∈ o_TT := o_inT 76 (by decide +kernel) (by decide +kernel)
theorem w_77 : Cond.initialized "TrapGateModel" ∈ o_TT := o_inT 77 (by decide +kernel) (by decide +kernel)
theorem w_78 : Cond.initialized "java/lang/Math" ∈ o_TT := o_inT 78 (by decide +kernel) (by decide +kernel)
theorem w_79 : Cond.classLink "TrapGateLaw" 7 "TrapGate" ∈ o_TT := o_inT 79 (by decide +kernel) (by decide +kernel)
theorem w_80 : Cond.instantiable "TrapGate" 9 ∈ o_TT := o_inT 80 (by decide +kernel) (by decide +kernel)
theorem w_81 : Cond.methodLink "TrapGateLaw" 9 ⟨"TrapGate", "<init>", "()V"⟩ ∈ o_TT := o_inT 81 (by decide +kernel) (by decide +kernel)
theorem w_82 : Cond.instanceMethod ⟨"TrapGate", "<init>", "()V"⟩ ∈ o_TT := o_inT 82 (by decide +kernel) (by decide +kernel)
theorem w_83 : Cond.code ⟨"TrapGate", "<init>", "()V"⟩ prog_1_method_1_code 2 none ∈ o_TT := o_inT 83 (by decide +kernel) (by decide +kernel)
theorem w_84 : Cond.methodLink "TrapGate" 3 ⟨"java/lang/Object", "<init>", "()V"⟩ ∈ o_TT := o_inT 84 (by decide +kernel) (by decide +kernel)
theorem w_85 : Cond.instanceMethod ⟨"java/lang/Object", "<init>", "()V"⟩ ∈ o_TT := o_inT 85 (by decide +kernel) (by decide +kernel)
theorem w_87 : Cond.classLink "TrapGate" 9 "TrapGate$Memory" ∈ o_TT := o_inT 87 (by decide +kernel) (by decide +kernel)
theorem w_88 : Cond.instantiable "TrapGate$Memory" 2 ∈ o_TT := o_inT 88 (by decide +kernel) (by decide +kernel)
theorem w_89 : Cond.methodLink "TrapGate" 11 ⟨"TrapGate$Memory", "<init>", "()V"⟩ ∈ o_TT := o_inT 89 (by decide +kernel) (by decide +kernel)
theorem w_90 : Cond.instanceMethod ⟨"TrapGate$Memory", "<init>", "()V"⟩ ∈ o_TT := o_inT 90 (by decide +kernel) (by decide +kernel)
theorem w_91 : Cond.code ⟨"TrapGate$Memory", "<init>", "()V"⟩ prog_2_method_1_code 1 none ∈ o_TT := o_inT 91 (by decide +kernel) (by decide +kernel)
theorem w_92 : Cond.methodLink "TrapGate$Memory" 3 ⟨"java/lang/Object", "<init>", "()V"⟩ ∈ o_TT := o_inT 92 (by decide +kernel) (by decide +kernel)
theorem w_93 : Cond.methodLink "TrapGate$Memory" 18 ⟨"java/util/Arrays", "fill", "([II)V"⟩ ∈ o_TT := o_inT 93 (by decide +kernel) (by decide +kernel)
theorem w_94 : Cond.static ⟨"java/util/Arrays", "fill", "([II)V"⟩ ∈ o_TT := o_inT 94 (by decide +kernel) (by decide +kernel)
theorem w_95 : Cond.code ⟨"java/util/Arrays", "fill", "([II)V"⟩ prog_11_method_103_code 4 none ∈ o_TT := o_inT 95 (by decide +kernel) (by decide +kernel)
theorem w_96 : Cond.fieldLink "TrapGate$Memory" 9 "TrapGate$Memory" "bytes" "[I" ∈ o_TT := o_inT 96 (by decide +kernel) (by decide +kernel)
theorem w_97 : Cond.fieldLinkNest "TrapGate" 81 "TrapGate$Memory" "bytes" "[I" "TrapGate" ∈ o_NW := o_inN 97 (by decide +kernel) (by decide +kernel)
theorem w_98 : Cond.fieldLink "TrapGate$Memory" 15 "TrapGate$Memory" "entries" "[I" ∈ o_TT := o_inT 98 (by decide +kernel) (by decide +kernel)
theorem w_99 : Cond.laysFinal "TrapGate$Memory" "TrapGate$Memory" "bytes" "[I" ∈ o_TT := o_inT 99 (by decide +kernel) (by decide +kernel)
theorem w_101 : Cond.laysFinal "TrapGate$Memory" "TrapGate$Memory" "entries" "[I" ∈ o_TT := o_inT 101 (by decide +kernel) (by decide +kernel)
theorem w_104 : Cond.arrayClass .int ∈ o_TT := o_inT 104 (by decide +kernel) (by decide +kernel)
theorem w_105 : Cond.classLink "TrapGate" 20 "TrapGate$Names" ∈ o_TT := o_inT 105 (by decide +kernel) (by decide +kernel)
theorem w_106 : Cond.instantiable "TrapGate$Names" 3 ∈ o_TT := o_inT 106 (by decide +kernel) (by decide +kernel)
theorem w_107 : Cond.methodLinkNest "TrapGate" 22 ⟨"TrapGate$Names", "<init>", "()V"⟩ "TrapGate" ∈ o_NW := o_inN 107 (by decide +kernel) (by decide +kernel)
theorem w_108 : Cond.instanceMethod ⟨"TrapGate$Names", "<init>", "()V"⟩ ∈ o_TT := o_inT 108 (by decide +kernel) (by decide +kernel)
theorem w_109 : Cond.code ⟨"TrapGate$Names", "<init>", "()V"⟩ prog_3_method_1_code 1 none ∈ o_TT := o_inT 109 (by decide +kernel) (by decide +kernel)
theorem w_110 : Cond.methodLink "TrapGate$Names" 3 ⟨"java/lang/Object", "<init>", "()V"⟩ ∈ o_TT := o_inT 110 (by decide +kernel) (by decide +kernel)
theorem w_111 : Cond.fieldLink "TrapGate$Names" 9 "TrapGate$Names" "texts" "[J" ∈ o_TT := o_inT 111 (by decide +kernel) (by decide +kernel)
theorem w_112 : Cond.fieldLinkNest "TrapGate" 303 "TrapGate$Names" "texts" "[J" "TrapGate" ∈ o_NW := o_inN 112 (by decide +kernel) (by decide +kernel)
theorem w_113 : Cond.fieldLink "TrapGate$Names" 15 "TrapGate$Names" "files" "[I" ∈ o_TT := o_inT 113 (by decide +kernel) (by decide +kernel)
theorem w_114 : Cond.fieldLinkNest "TrapGate" 174 "TrapGate$Names" "files" "[I" "TrapGate" ∈ o_NW := o_inN 114 (by decide +kernel) (by decide +kernel)
theorem w_115 : Cond.fieldLink "TrapGate$Names" 19 "TrapGate$Names" "size" "I" ∈ o_TT := o_inT 115 (by decide +kernel) (by decide +kernel)
theorem w_116 : Cond.fieldLinkNest "TrapGate" 94 "TrapGate$Names" "size" "I" "TrapGate" ∈ o_NW := o_inN 116 (by decide +kernel) (by decide +kernel)
theorem w_117 : Cond.laysFinal "TrapGate$Names" "TrapGate$Names" "texts" "[J" ∈ o_TT := o_inT 117 (by decide +kernel) (by decide +kernel)
theorem w_119 : Cond.laysFinal "TrapGate$Names" "TrapGate$Names" "files" "[I" ∈ o_TT := o_inT 119 (by decide +kernel) (by decide +kernel)
theorem w_121 : Cond.lays "TrapGate$Names" "TrapGate$Names" "size" "I" ∈ o_TT := o_inT 121 (by decide +kernel) (by decide +kernel)
theorem w_124 : Cond.arrayClass .long ∈ o_TT := o_inT 124 (by decide +kernel) (by decide +kernel)
theorem w_125 : Cond.classLink "TrapGate" 27 "TrapGate$Opens" ∈ o_TT := o_inT 125 (by decide +kernel) (by decide +kernel)
theorem w_126 : Cond.instantiable "TrapGate$Opens" 5 ∈ o_TT := o_inT 126 (by decide +kernel) (by decide +kernel)
theorem w_127 : Cond.methodLink "TrapGate" 29 ⟨"TrapGate$Opens", "<init>", "()V"⟩ ∈ o_TT := o_inT 127 (by decide +kernel) (by decide +kernel)
theorem w_128 : Cond.instanceMethod ⟨"TrapGate$Opens", "<init>", "()V"⟩ ∈ o_TT := o_inT 128 (by decide +kernel) (by decide +kernel)
theorem w_129 : Cond.code ⟨"TrapGate$Opens", "<init>", "()V"⟩ prog_4_method_1_code 1 none ∈ o_TT := o_inT 129 (by decide +kernel) (by decide +kernel)
theorem w_130 : Cond.methodLink "TrapGate$Opens" 3 ⟨"java/lang/Object", "<init>", "()V"⟩ ∈ o_TT := o_inT 130 (by decide +kernel) (by decide +kernel)
theorem w_131 : Cond.methodLink "TrapGate$Opens" 27 ⟨"java/util/Arrays", "fill", "([II)V"⟩ ∈ o_TT := o_inT 131 (by decide +kernel) (by decide +kernel)
theorem w_132 : Cond.fieldLink "TrapGate$Opens" 9 "TrapGate$Opens" "standsFor" "[I" ∈ o_TT := o_inT 132 (by decide +kernel) (by decide +kernel)
theorem w_133 : Cond.fieldLink "TrapGate$Opens" 15 "TrapGate$Opens" "holders" "[I" ∈ o_TT := o_inT 133 (by decide +kernel) (by decide +kernel)
theorem w_134 : Cond.fieldLink "TrapGate$Opens" 18 "TrapGate$Opens" "targets" "[I" ∈ o_TT := o_inT 134 (by decide +kernel) (by decide +kernel)
theorem w_135 : Cond.fieldLinkNest "TrapGate" 251 "TrapGate$Opens" "targets" "[I" "TrapGate" ∈ o_NW := o_inN 135 (by decide +kernel) (by decide +kernel)
theorem w_136 : Cond.fieldLink "TrapGate$Opens" 21 "TrapGate$Opens" "modes" "[I" ∈ o_TT := o_inT 136 (by decide +kernel) (by decide +kernel)
theorem w_137 : Cond.fieldLink "TrapGate$Opens" 24 "TrapGate$Opens" "positions" "[I" ∈ o_TT := o_inT 137 (by decide +kernel) (by decide +kernel)
theorem w_138 : Cond.fieldLinkNest "TrapGate" 203 "TrapGate$Opens" "positions" "[I" "TrapGate" ∈ o_NW := o_inN 138 (by decide +kernel) (by decide +kernel)
theorem w_139 : Cond.laysFinal "TrapGate$Opens" "TrapGate$Opens" "standsFor" "[I" ∈ o_TT := o_inT 139 (by decide +kernel) (by decide +kernel)
theorem w_141 : Cond.laysFinal "TrapGate$Opens" "TrapGate$Opens" "holders" "[I" ∈ o_TT := o_inT 141 (by decide +kernel) (by decide +kernel)
theorem w_143 : Cond.laysFinal "TrapGate$Opens" "TrapGate$Opens" "targets" "[I" ∈ o_TT := o_inT 143 (by decide +kernel) (by decide +kernel)
theorem w_145 : Cond.laysFinal "TrapGate$Opens" "TrapGate$Opens" "modes" "[I" ∈ o_TT := o_inT 145 (by decide +kernel) (by decide +kernel)
theorem w_147 : Cond.laysFinal "TrapGate$Opens" "TrapGate$Opens" "positions" "[I" ∈ o_TT := o_inT 147 (by decide +kernel) (by decide +kernel)
theorem w_150 : Cond.classLink "TrapGate" 34 "TrapGate$StoredFile" ∈ o_TT := o_inT 150 (by decide +kernel) (by decide +kernel)
theorem w_152 : Cond.classLink "TrapGate" 40 "TrapGate$Pipe" ∈ o_TT := o_inT 152 (by decide +kernel) (by decide +kernel)
theorem w_154 : Cond.classLink "TrapGate" 46 "TrapGate$Ranges" ∈ o_TT := o_inT 154 (by decide +kernel) (by decide +kernel)
theorem w_155 : Cond.instantiable "TrapGate$Ranges" 3 ∈ o_TT := o_inT 155 (by decide +kernel) (by decide +kernel)
theorem w_156 : Cond.methodLinkNest "TrapGate" 48 ⟨"TrapGate$Ranges", "<init>", "()V"⟩ "TrapGate" ∈ o_NW := o_inN 156 (by decide +kernel) (by decide +kernel)
theorem w_157 : Cond.instanceMethod ⟨"TrapGate$Ranges", "<init>", "()V"⟩ ∈ o_TT := o_inT 157 (by decide +kernel) (by decide +kernel)
theorem w_158 : Cond.code ⟨"TrapGate$Ranges", "<init>", "()V"⟩ prog_6_method_1_code 1 none ∈ o_TT := o_inT 158 (by decide +kernel) (by decide +kernel)
theorem w_159 : Cond.methodLink "TrapGate$Ranges" 3 ⟨"java/lang/Object", "<init>", "()V"⟩ ∈ o_TT := o_inT 159 (by decide +kernel) (by decide +kernel)
theorem w_160 : Cond.fieldLink "TrapGate$Ranges" 9 "TrapGate$Ranges" "starts" "[I" ∈ o_TT := o_inT 160 (by decide +kernel) (by decide +kernel)
theorem w_161 : Cond.fieldLink "TrapGate$Ranges" 15 "TrapGate$Ranges" "lengths" "[I" ∈ o_TT := o_inT 161 (by decide +kernel) (by decide +kernel)
theorem w_162 : Cond.fieldLink "TrapGate$Ranges" 18 "TrapGate$Ranges" "size" "I" ∈ o_TT := o_inT 162 (by decide +kernel) (by decide +kernel)
theorem w_163 : Cond.laysFinal "TrapGate$Ranges" "TrapGate$Ranges" "starts" "[I" ∈ o_TT := o_inT 163 (by decide +kernel) (by decide +kernel)
theorem w_165 : Cond.laysFinal "TrapGate$Ranges" "TrapGate$Ranges" "lengths" "[I" ∈ o_TT := o_inT 165 (by decide +kernel) (by decide +kernel)
theorem w_167 : Cond.lays "TrapGate$Ranges" "TrapGate$Ranges" "size" "I" ∈ o_TT := o_inT 167 (by decide +kernel) (by decide +kernel)
theorem w_170 : Cond.instantiable "TrapGate$StoredFile" 2 ∈ o_TT := o_inT 170 (by decide +kernel) (by decide +kernel)
theorem w_171 : Cond.methodLinkNest "TrapGate" 60 ⟨"TrapGate$StoredFile", "<init>", "()V"⟩ "TrapGate" ∈ o_NW := o_inN 171 (by decide +kernel) (by decide +kernel)
theorem w_172 : Cond.instanceMethod ⟨"TrapGate$StoredFile", "<init>", "()V"⟩ ∈ o_TT := o_inT 172 (by decide +kernel) (by decide +kernel)
theorem w_173 : Cond.code ⟨"TrapGate$StoredFile", "<init>", "()V"⟩ prog_7_method_1_code 1 none ∈ o_TT := o_inT 173 (by decide +kernel) (by decide +kernel)
theorem w_174 : Cond.methodLink "TrapGate$StoredFile" 3 ⟨"java/lang/Object", "<init>", "()V"⟩ ∈ o_TT := o_inT 174 (by decide +kernel) (by decide +kernel)
theorem w_175 : Cond.fieldLink "TrapGate$StoredFile" 9 "TrapGate$StoredFile" "bytes" "[I" ∈ o_TT := o_inT 175 (by decide +kernel) (by decide +kernel)
theorem w_176 : Cond.fieldLink "TrapGate$StoredFile" 15 "TrapGate$StoredFile" "length" "I" ∈ o_TT := o_inT 176 (by decide +kernel) (by decide +kernel)
theorem w_177 : Cond.fieldLinkNest "TrapGate" 184 "TrapGate$StoredFile" "length" "I" "TrapGate" ∈ o_NW := o_inN 177 (by decide +kernel) (by decide +kernel)
theorem w_178 : Cond.laysFinal "TrapGate$StoredFile" "TrapGate$StoredFile" "bytes" "[I" ∈ o_TT := o_inT 178 (by decide +kernel) (by decide +kernel)
theorem w_180 : Cond.lays "TrapGate$StoredFile" "TrapGate$StoredFile" "length" "I" ∈ o_TT := o_inT 180 (by decide +kernel) (by decide +kernel)
theorem w_183 : Cond.instantiable "TrapGate$Pipe" 2 ∈ o_TT := o_inT 183 (by decide +kernel) (by decide +kernel)
theorem w_184 : Cond.methodLinkNest "TrapGate" 61 ⟨"TrapGate$Pipe", "<init>", "()V"⟩ "TrapGate" ∈ o_NW := o_inN 184 (by decide +kernel) (by decide +kernel)
theorem w_185 : Cond.instanceMethod ⟨"TrapGate$Pipe", "<init>", "()V"⟩ ∈ o_TT := o_inT 185 (by decide +kernel) (by decide +kernel)
theorem w_186 : Cond.code ⟨"TrapGate$Pipe", "<init>", "()V"⟩ prog_5_method_1_code 1 none ∈ o_TT := o_inT 186 (by decide +kernel) (by decide +kernel)
theorem w_187 : Cond.methodLink "TrapGate$Pipe" 3 ⟨"java/lang/Object", "<init>", "()V"⟩ ∈ o_TT := o_inT 187 (by decide +kernel) (by decide +kernel)
theorem w_188 : Cond.fieldLink "TrapGate$Pipe" 9 "TrapGate$Pipe" "bytes" "[I" ∈ o_TT := o_inT 188 (by decide +kernel) (by decide +kernel)
theorem w_189 : Cond.fieldLink "TrapGate$Pipe" 15 "TrapGate$Pipe" "size" "I" ∈ o_TT := o_inT 189 (by decide +kernel) (by decide +kernel)
theorem w_190 : Cond.fieldLinkNest "TrapGate" 266 "TrapGate$Pipe" "size" "I" "TrapGate" ∈ o_NW := o_inN 190 (by decide +kernel) (by decide +kernel)
theorem w_191 : Cond.laysFinal "TrapGate$Pipe" "TrapGate$Pipe" "bytes" "[I" ∈ o_TT := o_inT 191 (by decide +kernel) (by decide +kernel)
theorem w_193 : Cond.lays "TrapGate$Pipe" "TrapGate$Pipe" "size" "I" ∈ o_TT := o_inT 193 (by decide +kernel) (by decide +kernel)
theorem w_196 : Cond.fieldLink "TrapGate" 12 "TrapGate" "memory" "LTrapGate$Memory;" ∈ o_TT := o_inT 196 (by decide +kernel) (by decide +kernel)
theorem w_197 : Cond.fieldLink "TrapGate" 16 "TrapGate" "registers" "[I" ∈ o_TT := o_inT 197 (by decide +kernel) (by decide +kernel)
theorem w_198 : Cond.fieldLink "TrapGate" 23 "TrapGate" "names" "LTrapGate$Names;" ∈ o_TT := o_inT 198 (by decide +kernel) (by decide +kernel)
theorem w_199 : Cond.fieldLink "TrapGate" 30 "TrapGate" "opens" "LTrapGate$Opens;" ∈ o_TT := o_inT 199 (by decide +kernel) (by decide +kernel)
theorem w_200 : Cond.fieldLink "TrapGate" 36 "TrapGate" "files" "[LTrapGate$StoredFile;" ∈ o_TT := o_inT 200 (by decide +kernel) (by decide +kernel)
theorem w_201 : Cond.fieldLink "TrapGate" 42 "TrapGate" "pipes" "[LTrapGate$Pipe;" ∈ o_TT := o_inT 201 (by decide +kernel) (by decide +kernel)
theorem w_202 : Cond.fieldLink "TrapGate" 49 "TrapGate" "ranges" "LTrapGate$Ranges;" ∈ o_TT := o_inT 202 (by decide +kernel) (by decide +kernel)
theorem w_203 : Cond.fieldLink "TrapGate" 53 "TrapGate" "buffer" "[I" ∈ o_TT := o_inT 203 (by decide +kernel) (by decide +kernel)
theorem w_204 : Cond.fieldLink "TrapGate" 56 "TrapGate" "trapsMade" "I" ∈ o_TT := o_inT 204 (by decide +kernel) (by decide +kernel)
theorem w_205 : Cond.laysFinal "TrapGate" "TrapGate" "memory" "LTrapGate$Memory;" ∈ o_TT := o_inT 205 (by decide +kernel) (by decide +kernel)
theorem w_207 : Cond.laysFinal "TrapGate" "TrapGate" "registers" "[I" ∈ o_TT := o_inT 207 (by decide +kernel) (by decide +kernel)
theorem w_209 : Cond.laysFinal "TrapGate" "TrapGate" "names" "LTrapGate$Names;" ∈ o_TT := o_inT 209 (by decide +kernel) (by decide +kernel)
theorem w_211 : Cond.laysFinal "TrapGate" "TrapGate" "opens" "LTrapGate$Opens;" ∈ o_TT := o_inT 211 (by decide +kernel) (by decide +kernel)
theorem w_213 : Cond.laysFinal "TrapGate" "TrapGate" "files" "[LTrapGate$StoredFile;" ∈ o_TT := o_inT 213 (by decide +kernel) (by decide +kernel)
theorem w_215 : Cond.laysFinal "TrapGate" "TrapGate" "pipes" "[LTrapGate$Pipe;" ∈ o_TT := o_inT 215 (by decide +kernel) (by decide +kernel)
theorem w_217 : Cond.laysFinal "TrapGate" "TrapGate" "ranges" "LTrapGate$Ranges;" ∈ o_TT := o_inT 217 (by decide +kernel) (by decide +kernel)
theorem w_219 : Cond.laysFinal "TrapGate" "TrapGate" "buffer" "[I" ∈ o_TT := o_inT 219 (by decide +kernel) (by decide +kernel)
theorem w_221 : Cond.lays "TrapGate" "TrapGate" "trapsMade" "I" ∈ o_TT := o_inT 221 (by decide +kernel) (by decide +kernel)
theorem w_224 : Cond.methodLink "TrapGateLaw" 13 ⟨"TrapGate", "map", "(IIII)Z"⟩ ∈ o_TT := o_inT 224 (by decide +kernel) (by decide +kernel)
theorem w_225 : Cond.instanceMethod ⟨"TrapGate", "map", "(IIII)Z"⟩ ∈ o_TT := o_inT 225 (by decide +kernel) (by decide +kernel)
theorem w_226 : Cond.selects "TrapGate" ⟨"TrapGate", "map", "(IIII)Z"⟩ ⟨"TrapGate", "map", "(IIII)Z"⟩ ∈ o_TT := o_inT 226 (by decide +kernel) (by decide +kernel)
theorem w_227 : Cond.code ⟨"TrapGate", "map", "(IIII)Z"⟩ prog_1_method_2_code 5 (some .boolean) ∈ o_TT := o_inT 227 (by decide +kernel) (by decide +kernel)
theorem w_228 : Cond.methodLink "TrapGate" 62 ⟨"TrapGate", "isProcess", "(I)Z"⟩ ∈ o_TT := o_inT 228 (by decide +kernel) (by decide +kernel)
theorem w_229 : Cond.static ⟨"TrapGate", "isProcess", "(I)Z"⟩ ∈ o_TT := o_inT 229 (by decide +kernel) (by decide +kernel)
theorem w_230 : Cond.code ⟨"TrapGate", "isProcess", "(I)Z"⟩ prog_1_method_15_code 1 (some .boolean) ∈ o_TT := o_inT 230 (by decide +kernel) (by decide +kernel)
theorem w_231 : Cond.methodLink "TrapGate" 66 ⟨"TrapGate", "isWithin", "(II)Z"⟩ ∈ o_TT := o_inT 231 (by decide +kernel) (by decide +kernel)
theorem w_232 : Cond.static ⟨"TrapGate", "isWithin", "(II)Z"⟩ ∈ o_TT := o_inT 232 (by decide +kernel) (by decide +kernel)
theorem w_233 : Cond.code ⟨"TrapGate", "isWithin", "(II)Z"⟩ prog_1_method_14_code 2 (some .boolean) ∈ o_TT := o_inT 233 (by decide +kernel) (by decide +kernel)
theorem w_234 : Cond.methodLink "TrapGate" 70 ⟨"TrapGate$Memory", "setEntry", "(III)V"⟩ ∈ o_TT := o_inT 234 (by decide +kernel) (by decide +kernel)
theorem w_235 : Cond.instanceMethod ⟨"TrapGate$Memory", "setEntry", "(III)V"⟩ ∈ o_TT := o_inT 235 (by decide +kernel) (by decide +kernel)
theorem w_236 : Cond.selects "TrapGate$Memory" ⟨"TrapGate$Memory", "setEntry", "(III)V"⟩ ⟨"TrapGate$Memory", "setEntry", "(III)V"⟩ ∈ o_TT := o_inT 236 (by decide +kernel) (by decide +kernel)
theorem w_237 : Cond.code ⟨"TrapGate$Memory", "setEntry", "(III)V"⟩ prog_2_method_3_code 4 none ∈ o_TT := o_inT 237 (by decide +kernel) (by decide +kernel)
theorem w_238 : Cond.methodLink "TrapGateLaw" 18 ⟨"TrapGate", "unmap", "(II)Z"⟩ ∈ o_TT := o_inT 238 (by decide +kernel) (by decide +kernel)
theorem w_239 : Cond.instanceMethod ⟨"TrapGate", "unmap", "(II)Z"⟩ ∈ o_TT := o_inT 239 (by decide +kernel) (by decide +kernel)
theorem w_240 : Cond.selects "TrapGate" ⟨"TrapGate", "unmap", "(II)Z"⟩ ⟨"TrapGate", "unmap", "(II)Z"⟩ ∈ o_TT := o_inT 240 (by decide +kernel) (by decide +kernel)
theorem w_241 : Cond.code ⟨"TrapGate", "unmap", "(II)Z"⟩ prog_1_method_3_code 3 (some .boolean) ∈ o_TT := o_inT 241 (by decide +kernel) (by decide +kernel)
theorem w_242 : Cond.methodLink "TrapGate" 74 ⟨"TrapGate", "page", "(II)I"⟩ ∈ o_TT := o_inT 242 (by decide +kernel) (by decide +kernel)
theorem w_243 : Cond.instanceMethod ⟨"TrapGate", "page", "(II)I"⟩ ∈ o_TT := o_inT 243 (by decide +kernel) (by decide +kernel)
theorem w_244 : Cond.selects "TrapGate" ⟨"TrapGate", "page", "(II)I"⟩ ⟨"TrapGate", "page", "(II)I"⟩ ∈ o_TT := o_inT 244 (by decide +kernel) (by decide +kernel)
theorem w_245 : Cond.code ⟨"TrapGate", "page", "(II)I"⟩ prog_1_method_4_code 3 (some .int) ∈ o_TT := o_inT 245 (by decide +kernel) (by decide +kernel)
theorem w_246 : Cond.methodLink "TrapGate" 78 ⟨"TrapGate$Memory", "entry", "(II)I"⟩ ∈ o_TT := o_inT 246 (by decide +kernel) (by decide +kernel)
theorem w_247 : Cond.instanceMethod ⟨"TrapGate$Memory", "entry", "(II)I"⟩ ∈ o_TT := o_inT 247 (by decide +kernel) (by decide +kernel)
theorem w_248 : Cond.selects "TrapGate$Memory" ⟨"TrapGate$Memory", "entry", "(II)I"⟩ ⟨"TrapGate$Memory", "entry", "(II)I"⟩ ∈ o_TT := o_inT 248 (by decide +kernel) (by decide +kernel)
theorem w_249 : Cond.code ⟨"TrapGate$Memory", "entry", "(II)I"⟩ prog_2_method_2_code 3 (some .int) ∈ o_TT := o_inT 249 (by decide +kernel) (by decide +kernel)
theorem w_250 : Cond.methodLink "TrapGateLaw" 23 ⟨"TrapGate", "page", "(II)I"⟩ ∈ o_TT := o_inT 250 (by decide +kernel) (by decide +kernel)
theorem w_251 : Cond.methodLink "TrapGateLaw" 28 ⟨"TrapGate", "poke", "(III)Z"⟩ ∈ o_TT := o_inT 251 (by decide +kernel) (by decide +kernel)
theorem w_252 : Cond.instanceMethod ⟨"TrapGate", "poke", "(III)Z"⟩ ∈ o_TT := o_inT 252 (by decide +kernel) (by decide +kernel)
theorem w_253 : Cond.selects "TrapGate" ⟨"TrapGate", "poke", "(III)Z"⟩ ⟨"TrapGate", "poke", "(III)Z"⟩ ∈ o_TT := o_inT 253 (by decide +kernel) (by decide +kernel)
theorem w_254 : Cond.code ⟨"TrapGate", "poke", "(III)Z"⟩ prog_1_method_5_code 4 (some .boolean) ∈ o_TT := o_inT 254 (by decide +kernel) (by decide +kernel)
theorem w_255 : Cond.methodLink "TrapGateLaw" 33 ⟨"TrapGate", "peek", "(II)I"⟩ ∈ o_TT := o_inT 255 (by decide +kernel) (by decide +kernel)
theorem w_256 : Cond.instanceMethod ⟨"TrapGate", "peek", "(II)I"⟩ ∈ o_TT := o_inT 256 (by decide +kernel) (by decide +kernel)
theorem w_257 : Cond.selects "TrapGate" ⟨"TrapGate", "peek", "(II)I"⟩ ⟨"TrapGate", "peek", "(II)I"⟩ ∈ o_TT := o_inT 257 (by decide +kernel) (by decide +kernel)
theorem w_258 : Cond.code ⟨"TrapGate", "peek", "(II)I"⟩ prog_1_method_6_code 3 (some .int) ∈ o_TT := o_inT 258 (by decide +kernel) (by decide +kernel)
theorem w_259 : Cond.methodLink "TrapGateLaw" 37 ⟨"TrapGate", "set", "(III)Z"⟩ ∈ o_TT := o_inT 259 (by decide +kernel) (by decide +kernel)
theorem w_260 : Cond.instanceMethod ⟨"TrapGate", "set", "(III)Z"⟩ ∈ o_TT := o_inT 260 (by decide +kernel) (by decide +kernel)
theorem w_261 : Cond.selects "TrapGate" ⟨"TrapGate", "set", "(III)Z"⟩ ⟨"TrapGate", "set", "(III)Z"⟩ ∈ o_TT := o_inT 261 (by decide +kernel) (by decide +kernel)
theorem w_262 : Cond.code ⟨"TrapGate", "set", "(III)Z"⟩ prog_1_method_7_code 4 (some .boolean) ∈ o_TT := o_inT 262 (by decide +kernel) (by decide +kernel)
theorem w_263 : Cond.methodLink "TrapGateLaw" 41 ⟨"TrapGate", "register", "(II)I"⟩ ∈ o_TT := o_inT 263 (by decide +kernel) (by decide +kernel)
theorem w_264 : Cond.instanceMethod ⟨"TrapGate", "register", "(II)I"⟩ ∈ o_TT := o_inT 264 (by decide +kernel) (by decide +kernel)
theorem w_265 : Cond.selects "TrapGate" ⟨"TrapGate", "register", "(II)I"⟩ ⟨"TrapGate", "register", "(II)I"⟩ ∈ o_TT := o_inT 265 (by decide +kernel) (by decide +kernel)
theorem w_266 : Cond.code ⟨"TrapGate", "register", "(II)I"⟩ prog_1_method_8_code 3 (some .int) ∈ o_TT := o_inT 266 (by decide +kernel) (by decide +kernel)
theorem w_267 : Cond.methodLink "TrapGateLaw" 45 ⟨"TrapGate", "trap", "(II)I"⟩ ∈ o_TT := o_inT 267 (by decide +kernel) (by decide +kernel)
theorem w_268 : Cond.instanceMethod ⟨"TrapGate", "trap", "(II)I"⟩ ∈ o_TT := o_inT 268 (by decide +kernel) (by decide +kernel)
theorem w_269 : Cond.selects "TrapGate" ⟨"TrapGate", "trap", "(II)I"⟩ ⟨"TrapGate", "trap", "(II)I"⟩ ∈ o_TT := o_inT 269 (by decide +kernel) (by decide +kernel)
theorem w_270 : Cond.code ⟨"TrapGate", "trap", "(II)I"⟩ prog_1_method_9_code 4 (some .int) ∈ o_TT := o_inT 270 (by decide +kernel) (by decide +kernel)
theorem w_271 : Cond.methodLink "TrapGate" 84 ⟨"TrapGate", "serve", "(II)I"⟩ ∈ o_TT := o_inT 271 (by decide +kernel) (by decide +kernel)
theorem w_273 : Cond.instanceMethod ⟨"TrapGate", "serve", "(II)I"⟩ ∈ o_TT := o_inT 273 (by decide +kernel) (by decide +kernel)
theorem w_274 : Cond.code ⟨"TrapGate", "serve", "(II)I"⟩ prog_1_method_16_code 6 (some .int) ∈ o_TT := o_inT 274 (by decide +kernel) (by decide +kernel)
theorem w_275 : Cond.methodLink "TrapGate" 107 ⟨"TrapGate", "open", "(III)I"⟩ ∈ o_TT := o_inT 275 (by decide +kernel) (by decide +kernel)
theorem w_277 : Cond.instanceMethod ⟨"TrapGate", "open", "(III)I"⟩ ∈ o_TT := o_inT 277 (by decide +kernel) (by decide +kernel)
theorem w_278 : Cond.code ⟨"TrapGate", "open", "(III)I"⟩ prog_1_method_17_code 10 (some .int) ∈ o_TT := o_inT 278 (by decide +kernel) (by decide +kernel)
theorem w_279 : Cond.methodLink "TrapGate" 152 ⟨"TrapGate", "isOpenMode", "(I)Z"⟩ ∈ o_TT := o_inT 279 (by decide +kernel) (by decide +kernel)
theorem w_280 : Cond.static ⟨"TrapGate", "isOpenMode", "(I)Z"⟩ ∈ o_TT := o_inT 280 (by decide +kernel) (by decide +kernel)
theorem w_281 : Cond.code ⟨"TrapGate", "isOpenMode", "(I)Z"⟩ prog_1_method_18_code 1 (some .boolean) ∈ o_TT := o_inT 281 (by decide +kernel) (by decide +kernel)
theorem w_282 : Cond.methodLink "TrapGate" 155 ⟨"TrapGate$Memory", "textAt", "(II)J"⟩ ∈ o_TT := o_inT 282 (by decide +kernel) (by decide +kernel)
theorem w_283 : Cond.instanceMethod ⟨"TrapGate$Memory", "textAt", "(II)J"⟩ ∈ o_TT := o_inT 283 (by decide +kernel) (by decide +kernel)
theorem w_284 : Cond.selects "TrapGate$Memory" ⟨"TrapGate$Memory", "textAt", "(II)J"⟩ ⟨"TrapGate$Memory", "textAt", "(II)J"⟩ ∈ o_TT := o_inT 284 (by decide +kernel) (by decide +kernel)
theorem w_285 : Cond.code ⟨"TrapGate$Memory", "textAt", "(II)J"⟩ prog_2_method_7_code 7 (some .long) ∈ o_TT := o_inT 285 (by decide +kernel) (by decide +kernel)
theorem w_286 : Cond.methodLink "TrapGate$Memory" 28 ⟨"TrapGate$Memory", "allows", "(IIII)Z"⟩ ∈ o_TT := o_inT 286 (by decide +kernel) (by decide +kernel)
theorem w_287 : Cond.instanceMethod ⟨"TrapGate$Memory", "allows", "(IIII)Z"⟩ ∈ o_TT := o_inT 287 (by decide +kernel) (by decide +kernel)
theorem w_288 : Cond.selects "TrapGate$Memory" ⟨"TrapGate$Memory", "allows", "(IIII)Z"⟩ ⟨"TrapGate$Memory", "allows", "(IIII)Z"⟩ ∈ o_TT := o_inT 288 (by decide +kernel) (by decide +kernel)
theorem w_289 : Cond.code ⟨"TrapGate$Memory", "allows", "(IIII)Z"⟩ prog_2_method_4_code 9 (some .boolean) ∈ o_TT := o_inT 289 (by decide +kernel) (by decide +kernel)
theorem w_290 : Cond.methodLink "TrapGate$Memory" 24 ⟨"TrapGate$Memory", "entry", "(II)I"⟩ ∈ o_TT := o_inT 290 (by decide +kernel) (by decide +kernel)
theorem w_291 : Cond.constantLong "TrapGate$Memory" 32 (-1 : Int64) ∈ o_TT := o_inT 291 (by decide +kernel) (by decide +kernel)
theorem w_292 : Cond.methodLink "TrapGate$Memory" 34 ⟨"TrapGate$Memory", "load", "(II)I"⟩ ∈ o_TT := o_inT 292 (by decide +kernel) (by decide +kernel)
theorem w_293 : Cond.instanceMethod ⟨"TrapGate$Memory", "load", "(II)I"⟩ ∈ o_TT := o_inT 293 (by decide +kernel) (by decide +kernel)
theorem w_294 : Cond.selects "TrapGate$Memory" ⟨"TrapGate$Memory", "load", "(II)I"⟩ ⟨"TrapGate$Memory", "load", "(II)I"⟩ ∈ o_TT := o_inT 294 (by decide +kernel) (by decide +kernel)
theorem w_295 : Cond.code ⟨"TrapGate$Memory", "load", "(II)I"⟩ prog_2_method_5_code 4 (some .int) ∈ o_TT := o_inT 295 (by decide +kernel) (by decide +kernel)
theorem w_296 : Cond.constantLong "TrapGate" 159 (-1 : Int64) ∈ o_TT := o_inT 296 (by decide +kernel) (by decide +kernel)
theorem w_297 : Cond.methodLink "TrapGate" 161 ⟨"TrapGate$Names", "find", "(J)I"⟩ ∈ o_TT := o_inT 297 (by decide +kernel) (by decide +kernel)
theorem w_298 : Cond.instanceMethod ⟨"TrapGate$Names", "find", "(J)I"⟩ ∈ o_TT := o_inT 298 (by decide +kernel) (by decide +kernel)
theorem w_299 : Cond.selects "TrapGate$Names" ⟨"TrapGate$Names", "find", "(J)I"⟩ ⟨"TrapGate$Names", "find", "(J)I"⟩ ∈ o_TT := o_inT 299 (by decide +kernel) (by decide +kernel)
theorem w_300 : Cond.code ⟨"TrapGate$Names", "find", "(J)I"⟩ prog_3_method_5_code 4 (some .int) ∈ o_TT := o_inT 300 (by decide +kernel) (by decide +kernel)
theorem w_301 : Cond.methodLink "TrapGate" 165 ⟨"TrapGate$Opens", "leastClosed", "(II)I"⟩ ∈ o_TT := o_inT 301 (by decide +kernel) (by decide +kernel)
theorem w_302 : Cond.instanceMethod ⟨"TrapGate$Opens", "leastClosed", "(II)I"⟩ ∈ o_TT := o_inT 302 (by decide +kernel) (by decide +kernel)
theorem w_303 : Cond.selects "TrapGate$Opens" ⟨"TrapGate$Opens", "leastClosed", "(II)I"⟩ ⟨"TrapGate$Opens", "leastClosed", "(II)I"⟩ ∈ o_TT := o_inT 303 (by decide +kernel) (by decide +kernel)
theorem w_304 : Cond.code ⟨"TrapGate$Opens", "leastClosed", "(II)I"⟩ prog_4_method_6_code 4 (some .int) ∈ o_TT := o_inT 304 (by decide +kernel) (by decide +kernel)
theorem w_305 : Cond.methodLink "TrapGate" 168 ⟨"TrapGate$Opens", "leastFree", "(I)I"⟩ ∈ o_TT := o_inT 305 (by decide +kernel) (by decide +kernel)
theorem w_306 : Cond.instanceMethod ⟨"TrapGate$Opens", "leastFree", "(I)I"⟩ ∈ o_TT := o_inT 306 (by decide +kernel) (by decide +kernel)
theorem w_307 : Cond.selects "TrapGate$Opens" ⟨"TrapGate$Opens", "leastFree", "(I)I"⟩ ⟨"TrapGate$Opens", "leastFree", "(I)I"⟩ ∈ o_TT := o_inT 307 (by decide +kernel) (by decide +kernel)
theorem w_308 : Cond.code ⟨"TrapGate$Opens", "leastFree", "(I)I"⟩ prog_4_method_8_code 3 (some .int) ∈ o_TT := o_inT 308 (by decide +kernel) (by decide +kernel)
theorem w_309 : Cond.methodLink "TrapGate" 171 ⟨"TrapGate", "leastFreeFile", "()I"⟩ ∈ o_TT := o_inT 309 (by decide +kernel) (by decide +kernel)
theorem w_311 : Cond.instanceMethod ⟨"TrapGate", "leastFreeFile", "()I"⟩ ∈ o_TT := o_inT 311 (by decide +kernel) (by decide +kernel)
theorem w_312 : Cond.code ⟨"TrapGate", "leastFreeFile", "()I"⟩ prog_1_method_46_code 2 (some .int) ∈ o_TT := o_inT 312 (by decide +kernel) (by decide +kernel)
theorem w_313 : Cond.methodLink "TrapGate" 314 ⟨"TrapGate", "isFileThere", "(I)Z"⟩ ∈ o_TT := o_inT 313 (by decide +kernel) (by decide +kernel)
theorem w_315 : Cond.instanceMethod ⟨"TrapGate", "isFileThere", "(I)Z"⟩ ∈ o_TT := o_inT 315 (by decide +kernel) (by decide +kernel)
theorem w_316 : Cond.code ⟨"TrapGate", "isFileThere", "(I)Z"⟩ prog_1_method_42_code 2 (some .boolean) ∈ o_TT := o_inT 316 (by decide +kernel) (by decide +kernel)
theorem w_317 : Cond.methodLink "TrapGate" 298 ⟨"TrapGate$Names", "countOf", "(I)I"⟩ ∈ o_TT := o_inT 317 (by decide +kernel) (by decide +kernel)
theorem w_318 : Cond.instanceMethod ⟨"TrapGate$Names", "countOf", "(I)I"⟩ ∈ o_TT := o_inT 318 (by decide +kernel) (by decide +kernel)
theorem w_319 : Cond.selects "TrapGate$Names" ⟨"TrapGate$Names", "countOf", "(I)I"⟩ ⟨"TrapGate$Names", "countOf", "(I)I"⟩ ∈ o_TT := o_inT 319 (by decide +kernel) (by decide +kernel)
theorem w_320 : Cond.code ⟨"TrapGate$Names", "countOf", "(I)I"⟩ prog_3_method_6_code 4 (some .int) ∈ o_TT := o_inT 320 (by decide +kernel) (by decide +kernel)
theorem w_321 : Cond.methodLink "TrapGate" 267 ⟨"TrapGate$Opens", "countOf", "(II)I"⟩ ∈ o_TT := o_inT 321 (by decide +kernel) (by decide +kernel)
theorem w_322 : Cond.instanceMethod ⟨"TrapGate$Opens", "countOf", "(II)I"⟩ ∈ o_TT := o_inT 322 (by decide +kernel) (by decide +kernel)
theorem w_323 : Cond.selects "TrapGate$Opens" ⟨"TrapGate$Opens", "countOf", "(II)I"⟩ ⟨"TrapGate$Opens", "countOf", "(II)I"⟩ ∈ o_TT := o_inT 323 (by decide +kernel) (by decide +kernel)
theorem w_324 : Cond.code ⟨"TrapGate$Opens", "countOf", "(II)I"⟩ prog_4_method_10_code 5 (some .int) ∈ o_TT := o_inT 324 (by decide +kernel) (by decide +kernel)
theorem w_325 : Cond.methodLink "TrapGate" 176 ⟨"TrapGate$Names", "isFull", "()Z"⟩ ∈ o_TT := o_inT 325 (by decide +kernel) (by decide +kernel)
theorem w_326 : Cond.instanceMethod ⟨"TrapGate$Names", "isFull", "()Z"⟩ ∈ o_TT := o_inT 326 (by decide +kernel) (by decide +kernel)
theorem w_327 : Cond.selects "TrapGate$Names" ⟨"TrapGate$Names", "isFull", "()Z"⟩ ⟨"TrapGate$Names", "isFull", "()Z"⟩ ∈ o_TT := o_inT 327 (by decide +kernel) (by decide +kernel)
theorem w_328 : Cond.code ⟨"TrapGate$Names", "isFull", "()Z"⟩ prog_3_method_4_code 1 (some .boolean) ∈ o_TT := o_inT 328 (by decide +kernel) (by decide +kernel)
theorem w_329 : Cond.methodLink "TrapGate" 180 ⟨"TrapGate$Names", "add", "(JI)V"⟩ ∈ o_TT := o_inT 329 (by decide +kernel) (by decide +kernel)
theorem w_330 : Cond.instanceMethod ⟨"TrapGate$Names", "add", "(JI)V"⟩ ∈ o_TT := o_inT 330 (by decide +kernel) (by decide +kernel)
theorem w_331 : Cond.selects "TrapGate$Names" ⟨"TrapGate$Names", "add", "(JI)V"⟩ ⟨"TrapGate$Names", "add", "(JI)V"⟩ ∈ o_TT := o_inT 331 (by decide +kernel) (by decide +kernel)
theorem w_332 : Cond.code ⟨"TrapGate$Names", "add", "(JI)V"⟩ prog_3_method_7_code 5 none ∈ o_TT := o_inT 332 (by decide +kernel) (by decide +kernel)
theorem w_333 : Cond.methodLink "TrapGate" 187 ⟨"TrapGate$Opens", "make", "(III)V"⟩ ∈ o_TT := o_inT 333 (by decide +kernel) (by decide +kernel)
theorem w_334 : Cond.instanceMethod ⟨"TrapGate$Opens", "make", "(III)V"⟩ ∈ o_TT := o_inT 334 (by decide +kernel) (by decide +kernel)
theorem w_335 : Cond.selects "TrapGate$Opens" ⟨"TrapGate$Opens", "make", "(III)V"⟩ ⟨"TrapGate$Opens", "make", "(III)V"⟩ ∈ o_TT := o_inT 335 (by decide +kernel) (by decide +kernel)
theorem w_336 : Cond.code ⟨"TrapGate$Opens", "make", "(III)V"⟩ prog_4_method_11_code 4 none ∈ o_TT := o_inT 336 (by decide +kernel) (by decide +kernel)
theorem w_337 : Cond.methodLink "TrapGate" 190 ⟨"TrapGate$Opens", "attach", "(III)V"⟩ ∈ o_TT := o_inT 337 (by decide +kernel) (by decide +kernel)
theorem w_338 : Cond.instanceMethod ⟨"TrapGate$Opens", "attach", "(III)V"⟩ ∈ o_TT := o_inT 338 (by decide +kernel) (by decide +kernel)
theorem w_339 : Cond.selects "TrapGate$Opens" ⟨"TrapGate$Opens", "attach", "(III)V"⟩ ⟨"TrapGate$Opens", "attach", "(III)V"⟩ ∈ o_TT := o_inT 339 (by decide +kernel) (by decide +kernel)
theorem w_340 : Cond.code ⟨"TrapGate$Opens", "attach", "(III)V"⟩ prog_4_method_12_code 4 none ∈ o_TT := o_inT 340 (by decide +kernel) (by decide +kernel)
theorem w_341 : Cond.methodLink "TrapGate" 111 ⟨"TrapGate", "close", "(II)I"⟩ ∈ o_TT := o_inT 341 (by decide +kernel) (by decide +kernel)
theorem w_343 : Cond.instanceMethod ⟨"TrapGate", "close", "(II)I"⟩ ∈ o_TT := o_inT 343 (by decide +kernel) (by decide +kernel)
theorem w_344 : Cond.code ⟨"TrapGate", "close", "(II)I"⟩ prog_1_method_19_code 3 (some .int) ∈ o_TT := o_inT 344 (by decide +kernel) (by decide +kernel)
theorem w_345 : Cond.methodLink "TrapGate" 193 ⟨"TrapGate$Opens", "at", "(II)I"⟩ ∈ o_TT := o_inT 345 (by decide +kernel) (by decide +kernel)
theorem w_346 : Cond.instanceMethod ⟨"TrapGate$Opens", "at", "(II)I"⟩ ∈ o_TT := o_inT 346 (by decide +kernel) (by decide +kernel)
theorem w_347 : Cond.selects "TrapGate$Opens" ⟨"TrapGate$Opens", "at", "(II)I"⟩ ⟨"TrapGate$Opens", "at", "(II)I"⟩ ∈ o_TT := o_inT 347 (by decide +kernel) (by decide +kernel)
theorem w_348 : Cond.code ⟨"TrapGate$Opens", "at", "(II)I"⟩ prog_4_method_2_code 3 (some .int) ∈ o_TT := o_inT 348 (by decide +kernel) (by decide +kernel)
theorem w_349 : Cond.methodLinkNest "TrapGate$Opens" 33 ⟨"TrapGate", "isWithin", "(II)Z"⟩ "TrapGate" ∈ o_NW := o_inN 349 (by decide +kernel) (by decide +kernel)
theorem w_350 : Cond.methodLink "TrapGate" 196 ⟨"TrapGate$Opens", "detach", "(II)V"⟩ ∈ o_TT := o_inT 350 (by decide +kernel) (by decide +kernel)
theorem w_351 : Cond.instanceMethod ⟨"TrapGate$Opens", "detach", "(II)V"⟩ ∈ o_TT := o_inT 351 (by decide +kernel) (by decide +kernel)
theorem w_352 : Cond.selects "TrapGate$Opens" ⟨"TrapGate$Opens", "detach", "(II)V"⟩ ⟨"TrapGate$Opens", "detach", "(II)V"⟩ ∈ o_TT := o_inT 352 (by decide +kernel) (by decide +kernel)
theorem w_353 : Cond.code ⟨"TrapGate$Opens", "detach", "(II)V"⟩ prog_4_method_13_code 3 none ∈ o_TT := o_inT 353 (by decide +kernel) (by decide +kernel)
theorem w_354 : Cond.methodLink "TrapGate" 114 ⟨"TrapGate", "transfer", "(IIIII)I"⟩ ∈ o_TT := o_inT 354 (by decide +kernel) (by decide +kernel)
theorem w_356 : Cond.instanceMethod ⟨"TrapGate", "transfer", "(IIIII)I"⟩ ∈ o_TT := o_inT 356 (by decide +kernel) (by decide +kernel)
theorem w_357 : Cond.code ⟨"TrapGate", "transfer", "(IIIII)I"⟩ prog_1_method_22_code 7 (some .int) ∈ o_TT := o_inT 357 (by decide +kernel) (by decide +kernel)
theorem w_358 : Cond.methodLink "TrapGate" 206 ⟨"TrapGate$Opens", "isFor", "(II)Z"⟩ ∈ o_TT := o_inT 358 (by decide +kernel) (by decide +kernel)
theorem w_359 : Cond.instanceMethod ⟨"TrapGate$Opens", "isFor", "(II)Z"⟩ ∈ o_TT := o_inT 359 (by decide +kernel) (by decide +kernel)
theorem w_360 : Cond.selects "TrapGate$Opens" ⟨"TrapGate$Opens", "isFor", "(II)Z"⟩ ⟨"TrapGate$Opens", "isFor", "(II)Z"⟩ ∈ o_TT := o_inT 360 (by decide +kernel) (by decide +kernel)
theorem w_361 : Cond.code ⟨"TrapGate$Opens", "isFor", "(II)Z"⟩ prog_4_method_3_code 3 (some .boolean) ∈ o_TT := o_inT 361 (by decide +kernel) (by decide +kernel)
theorem w_362 : Cond.methodLink "TrapGate" 209 ⟨"TrapGate", "flagFor", "(I)I"⟩ ∈ o_TT := o_inT 362 (by decide +kernel) (by decide +kernel)
theorem w_363 : Cond.static ⟨"TrapGate", "flagFor", "(I)I"⟩ ∈ o_TT := o_inT 363 (by decide +kernel) (by decide +kernel)
theorem w_364 : Cond.code ⟨"TrapGate", "flagFor", "(I)I"⟩ prog_1_method_24_code 1 (some .int) ∈ o_TT := o_inT 364 (by decide +kernel) (by decide +kernel)
theorem w_365 : Cond.methodLink "TrapGate" 212 ⟨"TrapGate$Memory", "allows", "(IIII)Z"⟩ ∈ o_TT := o_inT 365 (by decide +kernel) (by decide +kernel)
theorem w_366 : Cond.methodLink "TrapGate" 216 ⟨"TrapGate$Ranges", "setOnly", "(II)V"⟩ ∈ o_TT := o_inT 366 (by decide +kernel) (by decide +kernel)
theorem w_367 : Cond.instanceMethod ⟨"TrapGate$Ranges", "setOnly", "(II)V"⟩ ∈ o_TT := o_inT 367 (by decide +kernel) (by decide +kernel)
theorem w_368 : Cond.selects "TrapGate$Ranges" ⟨"TrapGate$Ranges", "setOnly", "(II)V"⟩ ⟨"TrapGate$Ranges", "setOnly", "(II)V"⟩ ∈ o_TT := o_inT 368 (by decide +kernel) (by decide +kernel)
theorem w_369 : Cond.code ⟨"TrapGate$Ranges", "setOnly", "(II)V"⟩ prog_6_method_4_code 3 none ∈ o_TT := o_inT 369 (by decide +kernel) (by decide +kernel)
theorem w_370 : Cond.methodLink "TrapGate$Ranges" 22 ⟨"TrapGate$Ranges", "clear", "()V"⟩ ∈ o_TT := o_inT 370 (by decide +kernel) (by decide +kernel)
theorem w_371 : Cond.instanceMethod ⟨"TrapGate$Ranges", "clear", "()V"⟩ ∈ o_TT := o_inT 371 (by decide +kernel) (by decide +kernel)
theorem w_372 : Cond.selects "TrapGate$Ranges" ⟨"TrapGate$Ranges", "clear", "()V"⟩ ⟨"TrapGate$Ranges", "clear", "()V"⟩ ∈ o_TT := o_inT 372 (by decide +kernel) (by decide +kernel)
theorem w_373 : Cond.code ⟨"TrapGate$Ranges", "clear", "()V"⟩ prog_6_method_2_code 1 none ∈ o_TT := o_inT 373 (by decide +kernel) (by decide +kernel)
theorem w_374 : Cond.methodLink "TrapGate$Ranges" 25 ⟨"TrapGate$Ranges", "add", "(II)V"⟩ ∈ o_TT := o_inT 374 (by decide +kernel) (by decide +kernel)
theorem w_375 : Cond.instanceMethod ⟨"TrapGate$Ranges", "add", "(II)V"⟩ ∈ o_TT := o_inT 375 (by decide +kernel) (by decide +kernel)
theorem w_376 : Cond.selects "TrapGate$Ranges" ⟨"TrapGate$Ranges", "add", "(II)V"⟩ ⟨"TrapGate$Ranges", "add", "(II)V"⟩ ∈ o_TT := o_inT 376 (by decide +kernel) (by decide +kernel)
theorem w_377 : Cond.code ⟨"TrapGate$Ranges", "add", "(II)V"⟩ prog_6_method_3_code 3 none ∈ o_TT := o_inT 377 (by decide +kernel) (by decide +kernel)
theorem w_378 : Cond.methodLink "TrapGate" 219 ⟨"TrapGate", "readOpen", "(II)I"⟩ ∈ o_TT := o_inT 378 (by decide +kernel) (by decide +kernel)
theorem w_380 : Cond.instanceMethod ⟨"TrapGate", "readOpen", "(II)I"⟩ ∈ o_TT := o_inT 380 (by decide +kernel) (by decide +kernel)
theorem w_381 : Cond.code ⟨"TrapGate", "readOpen", "(II)I"⟩ prog_1_method_26_code 5 (some .int) ∈ o_TT := o_inT 381 (by decide +kernel) (by decide +kernel)
theorem w_382 : Cond.methodLink "TrapGate" 236 ⟨"TrapGate$Ranges", "total", "()I"⟩ ∈ o_TT := o_inT 382 (by decide +kernel) (by decide +kernel)
theorem w_383 : Cond.instanceMethod ⟨"TrapGate$Ranges", "total", "()I"⟩ ∈ o_TT := o_inT 383 (by decide +kernel) (by decide +kernel)
theorem w_384 : Cond.selects "TrapGate$Ranges" ⟨"TrapGate$Ranges", "total", "()I"⟩ ⟨"TrapGate$Ranges", "total", "()I"⟩ ∈ o_TT := o_inT 384 (by decide +kernel) (by decide +kernel)
theorem w_385 : Cond.code ⟨"TrapGate$Ranges", "total", "()I"⟩ prog_6_method_5_code 3 (some .int) ∈ o_TT := o_inT 385 (by decide +kernel) (by decide +kernel)
theorem w_386 : Cond.methodLink "TrapGate" 200 ⟨"TrapGate$Opens", "isOfPipe", "(I)Z"⟩ ∈ o_TT := o_inT 386 (by decide +kernel) (by decide +kernel)
theorem w_387 : Cond.instanceMethod ⟨"TrapGate$Opens", "isOfPipe", "(I)Z"⟩ ∈ o_TT := o_inT 387 (by decide +kernel) (by decide +kernel)
theorem w_388 : Cond.selects "TrapGate$Opens" ⟨"TrapGate$Opens", "isOfPipe", "(I)Z"⟩ ⟨"TrapGate$Opens", "isOfPipe", "(I)Z"⟩ ∈ o_TT := o_inT 388 (by decide +kernel) (by decide +kernel)
theorem w_389 : Cond.code ⟨"TrapGate$Opens", "isOfPipe", "(I)Z"⟩ prog_4_method_4_code 2 (some .boolean) ∈ o_TT := o_inT 389 (by decide +kernel) (by decide +kernel)
theorem w_390 : Cond.methodLink "TrapGate" 239 ⟨"TrapGate$Opens", "pipeOf", "(I)I"⟩ ∈ o_TT := o_inT 390 (by decide +kernel) (by decide +kernel)
theorem w_391 : Cond.instanceMethod ⟨"TrapGate$Opens", "pipeOf", "(I)I"⟩ ∈ o_TT := o_inT 391 (by decide +kernel) (by decide +kernel)
theorem w_392 : Cond.selects "TrapGate$Opens" ⟨"TrapGate$Opens", "pipeOf", "(I)I"⟩ ⟨"TrapGate$Opens", "pipeOf", "(I)I"⟩ ∈ o_TT := o_inT 392 (by decide +kernel) (by decide +kernel)
theorem w_393 : Cond.code ⟨"TrapGate$Opens", "pipeOf", "(I)I"⟩ prog_4_method_5_code 2 (some .int) ∈ o_TT := o_inT 393 (by decide +kernel) (by decide +kernel)
theorem w_394 : Cond.methodLink "TrapGate" 242 ⟨"TrapGate", "takeFromPipe", "(II)I"⟩ ∈ o_TT := o_inT 394 (by decide +kernel) (by decide +kernel)
theorem w_396 : Cond.instanceMethod ⟨"TrapGate", "takeFromPipe", "(II)I"⟩ ∈ o_TT := o_inT 396 (by decide +kernel) (by decide +kernel)
theorem w_397 : Cond.code ⟨"TrapGate", "takeFromPipe", "(II)I"⟩ prog_1_method_28_code 5 (some .int) ∈ o_TT := o_inT 397 (by decide +kernel) (by decide +kernel)
theorem w_398 : Cond.methodLink "TrapGate" 254 ⟨"java/lang/Math", "min", "(II)I"⟩ ∈ o_TT := o_inT 398 (by decide +kernel) (by decide +kernel)
theorem w_399 : Cond.static ⟨"java/lang/Math", "min", "(II)I"⟩ ∈ o_TT := o_inT 399 (by decide +kernel) (by decide +kernel)
theorem w_400 : Cond.code ⟨"java/lang/Math", "min", "(II)I"⟩ prog_10_method_69_code 2 (some .int) ∈ o_TT := o_inT 400 (by decide +kernel) (by decide +kernel)
theorem w_401 : Cond.methodLink "TrapGate" 270 ⟨"TrapGate$Pipe", "takeOut", "([II)V"⟩ ∈ o_TT := o_inT 401 (by decide +kernel) (by decide +kernel)
theorem w_402 : Cond.instanceMethod ⟨"TrapGate$Pipe", "takeOut", "([II)V"⟩ ∈ o_TT := o_inT 402 (by decide +kernel) (by decide +kernel)
theorem w_403 : Cond.selects "TrapGate$Pipe" ⟨"TrapGate$Pipe", "takeOut", "([II)V"⟩ ⟨"TrapGate$Pipe", "takeOut", "([II)V"⟩ ∈ o_TT := o_inT 403 (by decide +kernel) (by decide +kernel)
theorem w_404 : Cond.code ⟨"TrapGate$Pipe", "takeOut", "([II)V"⟩ prog_5_method_2_code 4 none ∈ o_TT := o_inT 404 (by decide +kernel) (by decide +kernel)
theorem w_405 : Cond.methodLink "TrapGate" 245 ⟨"TrapGate", "takeFromFile", "(II)I"⟩ ∈ o_TT := o_inT 405 (by decide +kernel) (by decide +kernel)
theorem w_407 : Cond.instanceMethod ⟨"TrapGate", "takeFromFile", "(II)I"⟩ ∈ o_TT := o_inT 407 (by decide +kernel) (by decide +kernel)
theorem w_408 : Cond.code ⟨"TrapGate", "takeFromFile", "(II)I"⟩ prog_1_method_27_code 6 (some .int) ∈ o_TT := o_inT 408 (by decide +kernel) (by decide +kernel)
theorem w_409 : Cond.methodLink "TrapGate" 259 ⟨"java/lang/Math", "max", "(II)I"⟩ ∈ o_TT := o_inT 409 (by decide +kernel) (by decide +kernel)
theorem w_410 : Cond.static ⟨"java/lang/Math", "max", "(II)I"⟩ ∈ o_TT := o_inT 410 (by decide +kernel) (by decide +kernel)
theorem w_411 : Cond.code ⟨"java/lang/Math", "max", "(II)I"⟩ prog_10_method_65_code 2 (some .int) ∈ o_TT := o_inT 411 (by decide +kernel) (by decide +kernel)
theorem w_412 : Cond.methodLink "TrapGate" 262 ⟨"TrapGate$StoredFile", "copyOut", "(I[II)V"⟩ ∈ o_TT := o_inT 412 (by decide +kernel) (by decide +kernel)
theorem w_413 : Cond.instanceMethod ⟨"TrapGate$StoredFile", "copyOut", "(I[II)V"⟩ ∈ o_TT := o_inT 413 (by decide +kernel) (by decide +kernel)
theorem w_414 : Cond.selects "TrapGate$StoredFile" ⟨"TrapGate$StoredFile", "copyOut", "(I[II)V"⟩ ⟨"TrapGate$StoredFile", "copyOut", "(I[II)V"⟩ ∈ o_TT := o_inT 414 (by decide +kernel) (by decide +kernel)
theorem w_415 : Cond.code ⟨"TrapGate$StoredFile", "copyOut", "(I[II)V"⟩ prog_7_method_2_code 5 none ∈ o_TT := o_inT 415 (by decide +kernel) (by decide +kernel)
theorem w_416 : Cond.methodLink "TrapGate" 248 ⟨"TrapGate", "scatter", "(II)V"⟩ ∈ o_TT := o_inT 416 (by decide +kernel) (by decide +kernel)
theorem w_418 : Cond.instanceMethod ⟨"TrapGate", "scatter", "(II)V"⟩ ∈ o_TT := o_inT 418 (by decide +kernel) (by decide +kernel)
theorem w_419 : Cond.code ⟨"TrapGate", "scatter", "(II)V"⟩ prog_1_method_32_code 4 none ∈ o_TT := o_inT 419 (by decide +kernel) (by decide +kernel)
theorem w_420 : Cond.methodLink "TrapGate" 288 ⟨"TrapGate$Ranges", "addressOf", "(I)I"⟩ ∈ o_TT := o_inT 420 (by decide +kernel) (by decide +kernel)
theorem w_421 : Cond.instanceMethod ⟨"TrapGate$Ranges", "addressOf", "(I)I"⟩ ∈ o_TT := o_inT 421 (by decide +kernel) (by decide +kernel)
theorem w_422 : Cond.selects "TrapGate$Ranges" ⟨"TrapGate$Ranges", "addressOf", "(I)I"⟩ ⟨"TrapGate$Ranges", "addressOf", "(I)I"⟩ ∈ o_TT := o_inT 422 (by decide +kernel) (by decide +kernel)
theorem w_423 : Cond.code ⟨"TrapGate$Ranges", "addressOf", "(I)I"⟩ prog_6_method_6_code 4 (some .int) ∈ o_TT := o_inT 423 (by decide +kernel) (by decide +kernel)
theorem w_424 : Cond.methodLink "TrapGate" 291 ⟨"TrapGate$Memory", "store", "(III)V"⟩ ∈ o_TT := o_inT 424 (by decide +kernel) (by decide +kernel)
theorem w_425 : Cond.instanceMethod ⟨"TrapGate$Memory", "store", "(III)V"⟩ ∈ o_TT := o_inT 425 (by decide +kernel) (by decide +kernel)
theorem w_426 : Cond.selects "TrapGate$Memory" ⟨"TrapGate$Memory", "store", "(III)V"⟩ ⟨"TrapGate$Memory", "store", "(III)V"⟩ ∈ o_TT := o_inT 426 (by decide +kernel) (by decide +kernel)
theorem w_427 : Cond.code ⟨"TrapGate$Memory", "store", "(III)V"⟩ prog_2_method_6_code 5 none ∈ o_TT := o_inT 427 (by decide +kernel) (by decide +kernel)
theorem w_428 : Cond.methodLink "TrapGate" 222 ⟨"TrapGate", "writeOpen", "(II)I"⟩ ∈ o_TT := o_inT 428 (by decide +kernel) (by decide +kernel)
theorem w_430 : Cond.instanceMethod ⟨"TrapGate", "writeOpen", "(II)I"⟩ ∈ o_TT := o_inT 430 (by decide +kernel) (by decide +kernel)
theorem w_431 : Cond.code ⟨"TrapGate", "writeOpen", "(II)I"⟩ prog_1_method_29_code 5 (some .int) ∈ o_TT := o_inT 431 (by decide +kernel) (by decide +kernel)
theorem w_432 : Cond.methodLink "TrapGate" 274 ⟨"TrapGate", "gather", "(II)V"⟩ ∈ o_TT := o_inT 432 (by decide +kernel) (by decide +kernel)
theorem w_434 : Cond.instanceMethod ⟨"TrapGate", "gather", "(II)V"⟩ ∈ o_TT := o_inT 434 (by decide +kernel) (by decide +kernel)
theorem w_435 : Cond.code ⟨"TrapGate", "gather", "(II)V"⟩ prog_1_method_33_code 4 none ∈ o_TT := o_inT 435 (by decide +kernel) (by decide +kernel)
theorem w_436 : Cond.methodLink "TrapGate" 231 ⟨"TrapGate$Memory", "load", "(II)I"⟩ ∈ o_TT := o_inT 436 (by decide +kernel) (by decide +kernel)
theorem w_437 : Cond.methodLink "TrapGate" 277 ⟨"TrapGate", "putInPipe", "(II)I"⟩ ∈ o_TT := o_inT 437 (by decide +kernel) (by decide +kernel)
theorem w_439 : Cond.instanceMethod ⟨"TrapGate", "putInPipe", "(II)I"⟩ ∈ o_TT := o_inT 439 (by decide +kernel) (by decide +kernel)
theorem w_440 : Cond.code ⟨"TrapGate", "putInPipe", "(II)I"⟩ prog_1_method_31_code 5 (some .int) ∈ o_TT := o_inT 440 (by decide +kernel) (by decide +kernel)
theorem w_441 : Cond.methodLink "TrapGate" 286 ⟨"TrapGate$Pipe", "putIn", "([II)V"⟩ ∈ o_TT := o_inT 441 (by decide +kernel) (by decide +kernel)
theorem w_442 : Cond.instanceMethod ⟨"TrapGate$Pipe", "putIn", "([II)V"⟩ ∈ o_TT := o_inT 442 (by decide +kernel) (by decide +kernel)
theorem w_443 : Cond.selects "TrapGate$Pipe" ⟨"TrapGate$Pipe", "putIn", "([II)V"⟩ ⟨"TrapGate$Pipe", "putIn", "([II)V"⟩ ∈ o_TT := o_inT 443 (by decide +kernel) (by decide +kernel)
theorem w_444 : Cond.code ⟨"TrapGate$Pipe", "putIn", "([II)V"⟩ prog_5_method_3_code 4 none ∈ o_TT := o_inT 444 (by decide +kernel) (by decide +kernel)
theorem w_445 : Cond.methodLink "TrapGate" 280 ⟨"TrapGate", "putInFile", "(II)I"⟩ ∈ o_TT := o_inT 445 (by decide +kernel) (by decide +kernel)
theorem w_447 : Cond.instanceMethod ⟨"TrapGate", "putInFile", "(II)I"⟩ ∈ o_TT := o_inT 447 (by decide +kernel) (by decide +kernel)
theorem w_448 : Cond.code ⟨"TrapGate", "putInFile", "(II)I"⟩ prog_1_method_30_code 5 (some .int) ∈ o_TT := o_inT 448 (by decide +kernel) (by decide +kernel)
theorem w_449 : Cond.methodLink "TrapGate" 283 ⟨"TrapGate$StoredFile", "putIn", "(I[II)V"⟩ ∈ o_TT := o_inT 449 (by decide +kernel) (by decide +kernel)
theorem w_450 : Cond.instanceMethod ⟨"TrapGate$StoredFile", "putIn", "(I[II)V"⟩ ∈ o_TT := o_inT 450 (by decide +kernel) (by decide +kernel)
theorem w_451 : Cond.selects "TrapGate$StoredFile" ⟨"TrapGate$StoredFile", "putIn", "(I[II)V"⟩ ⟨"TrapGate$StoredFile", "putIn", "(I[II)V"⟩ ∈ o_TT := o_inT 451 (by decide +kernel) (by decide +kernel)
theorem w_452 : Cond.code ⟨"TrapGate$StoredFile", "putIn", "(I[II)V"⟩ prog_7_method_3_code 5 none ∈ o_TT := o_inT 452 (by decide +kernel) (by decide +kernel)
theorem w_453 : Cond.methodLink "TrapGate$StoredFile" 19 ⟨"java/lang/Math", "max", "(II)I"⟩ ∈ o_TT := o_inT 453 (by decide +kernel) (by decide +kernel)
theorem w_454 : Cond.methodLink "TrapGate" 118 ⟨"TrapGate", "seek", "(III)I"⟩ ∈ o_TT := o_inT 454 (by decide +kernel) (by decide +kernel)
theorem w_456 : Cond.instanceMethod ⟨"TrapGate", "seek", "(III)I"⟩ ∈ o_TT := o_inT 456 (by decide +kernel) (by decide +kernel)
theorem w_457 : Cond.code ⟨"TrapGate", "seek", "(III)I"⟩ prog_1_method_21_code 5 (some .int) ∈ o_TT := o_inT 457 (by decide +kernel) (by decide +kernel)
theorem w_458 : Cond.methodLink "TrapGate" 121 ⟨"TrapGate", "duplicate", "(II)I"⟩ ∈ o_TT := o_inT 458 (by decide +kernel) (by decide +kernel)
theorem w_460 : Cond.instanceMethod ⟨"TrapGate", "duplicate", "(II)I"⟩ ∈ o_TT := o_inT 460 (by decide +kernel) (by decide +kernel)
theorem w_461 : Cond.code ⟨"TrapGate", "duplicate", "(II)I"⟩ prog_1_method_20_code 5 (some .int) ∈ o_TT := o_inT 461 (by decide +kernel) (by decide +kernel)
theorem w_462 : Cond.methodLink "TrapGate" 124 ⟨"TrapGate", "unlink", "(II)I"⟩ ∈ o_TT := o_inT 462 (by decide +kernel) (by decide +kernel)
theorem w_464 : Cond.instanceMethod ⟨"TrapGate", "unlink", "(II)I"⟩ ∈ o_TT := o_inT 464 (by decide +kernel) (by decide +kernel)
theorem w_465 : Cond.code ⟨"TrapGate", "unlink", "(II)I"⟩ prog_1_method_34_code 6 (some .int) ∈ o_TT := o_inT 465 (by decide +kernel) (by decide +kernel)
theorem w_466 : Cond.methodLink "TrapGate" 294 ⟨"TrapGate$Names", "remove", "(I)V"⟩ ∈ o_TT := o_inT 466 (by decide +kernel) (by decide +kernel)
theorem w_467 : Cond.instanceMethod ⟨"TrapGate$Names", "remove", "(I)V"⟩ ∈ o_TT := o_inT 467 (by decide +kernel) (by decide +kernel)
theorem w_468 : Cond.selects "TrapGate$Names" ⟨"TrapGate$Names", "remove", "(I)V"⟩ ⟨"TrapGate$Names", "remove", "(I)V"⟩ ∈ o_TT := o_inT 468 (by decide +kernel) (by decide +kernel)
theorem w_469 : Cond.code ⟨"TrapGate$Names", "remove", "(I)V"⟩ prog_3_method_8_code 3 none ∈ o_TT := o_inT 469 (by decide +kernel) (by decide +kernel)
theorem w_470 : Cond.methodLink "TrapGate" 127 ⟨"TrapGate", "link", "(III)I"⟩ ∈ o_TT := o_inT 470 (by decide +kernel) (by decide +kernel)
theorem w_472 : Cond.instanceMethod ⟨"TrapGate", "link", "(III)I"⟩ ∈ o_TT := o_inT 472 (by decide +kernel) (by decide +kernel)
theorem w_473 : Cond.code ⟨"TrapGate", "link", "(III)I"⟩ prog_1_method_35_code 9 (some .int) ∈ o_TT := o_inT 473 (by decide +kernel) (by decide +kernel)
theorem w_474 : Cond.methodLink "TrapGate" 130 ⟨"TrapGate", "stat", "(III)I"⟩ ∈ o_TT := o_inT 474 (by decide +kernel) (by decide +kernel)
theorem w_476 : Cond.instanceMethod ⟨"TrapGate", "stat", "(III)I"⟩ ∈ o_TT := o_inT 476 (by decide +kernel) (by decide +kernel)
theorem w_477 : Cond.code ⟨"TrapGate", "stat", "(III)I"⟩ prog_1_method_37_code 8 (some .int) ∈ o_TT := o_inT 477 (by decide +kernel) (by decide +kernel)
theorem w_478 : Cond.methodLink "TrapGate" 133 ⟨"TrapGate", "makePipe", "(II)I"⟩ ∈ o_TT := o_inT 478 (by decide +kernel) (by decide +kernel)
theorem w_480 : Cond.instanceMethod ⟨"TrapGate", "makePipe", "(II)I"⟩ ∈ o_TT := o_inT 480 (by decide +kernel) (by decide +kernel)
theorem w_481 : Cond.code ⟨"TrapGate", "makePipe", "(II)I"⟩ prog_1_method_38_code 8 (some .int) ∈ o_TT := o_inT 481 (by decide +kernel) (by decide +kernel)
theorem w_482 : Cond.methodLink "TrapGate" 300 ⟨"TrapGate", "leastFreePipe", "()I"⟩ ∈ o_TT := o_inT 482 (by decide +kernel) (by decide +kernel)
theorem w_484 : Cond.instanceMethod ⟨"TrapGate", "leastFreePipe", "()I"⟩ ∈ o_TT := o_inT 484 (by decide +kernel) (by decide +kernel)
theorem w_485 : Cond.code ⟨"TrapGate", "leastFreePipe", "()I"⟩ prog_1_method_47_code 2 (some .int) ∈ o_TT := o_inT 485 (by decide +kernel) (by decide +kernel)
theorem w_486 : Cond.methodLink "TrapGate" 317 ⟨"TrapGate", "isPipeThere", "(I)Z"⟩ ∈ o_TT := o_inT 486 (by decide +kernel) (by decide +kernel)
theorem w_488 : Cond.instanceMethod ⟨"TrapGate", "isPipeThere", "(I)Z"⟩ ∈ o_TT := o_inT 488 (by decide +kernel) (by decide +kernel)
theorem w_489 : Cond.code ⟨"TrapGate", "isPipeThere", "(I)Z"⟩ prog_1_method_43_code 2 (some .boolean) ∈ o_TT := o_inT 489 (by decide +kernel) (by decide +kernel)
theorem w_490 : Cond.methodLink "TrapGate" 136 ⟨"TrapGate", "list", "(III)I"⟩ ∈ o_TT := o_inT 490 (by decide +kernel) (by decide +kernel)
theorem w_492 : Cond.instanceMethod ⟨"TrapGate", "list", "(III)I"⟩ ∈ o_TT := o_inT 492 (by decide +kernel) (by decide +kernel)
theorem w_493 : Cond.code ⟨"TrapGate", "list", "(III)I"⟩ prog_1_method_39_code 8 (some .int) ∈ o_TT := o_inT 493 (by decide +kernel) (by decide +kernel)
theorem w_494 : Cond.methodLink "TrapGate" 307 ⟨"TrapGate$Names", "lengthOf", "(J)I"⟩ ∈ o_TT := o_inT 494 (by decide +kernel) (by decide +kernel)
theorem w_495 : Cond.static ⟨"TrapGate$Names", "lengthOf", "(J)I"⟩ ∈ o_TT := o_inT 495 (by decide +kernel) (by decide +kernel)
theorem w_496 : Cond.code ⟨"TrapGate$Names", "lengthOf", "(J)I"⟩ prog_3_method_3_code 3 (some .int) ∈ o_TT := o_inT 496 (by decide +kernel) (by decide +kernel)
theorem w_497 : Cond.methodLink "TrapGate$Names" 23 ⟨"TrapGate$Names", "byteOf", "(JI)I"⟩ ∈ o_TT := o_inT 497 (by decide +kernel) (by decide +kernel)
theorem w_498 : Cond.static ⟨"TrapGate$Names", "byteOf", "(JI)I"⟩ ∈ o_TT := o_inT 498 (by decide +kernel) (by decide +kernel)
theorem w_499 : Cond.code ⟨"TrapGate$Names", "byteOf", "(JI)I"⟩ prog_3_method_2_code 3 (some .int) ∈ o_TT := o_inT 499 (by decide +kernel) (by decide +kernel)
theorem w_500 : Cond.methodLink "TrapGate" 310 ⟨"TrapGate$Names", "byteOf", "(JI)I"⟩ ∈ o_TT := o_inT 500 (by decide +kernel) (by decide +kernel)
theorem w_501 : Cond.methodLink "TrapGate" 139 ⟨"TrapGate", "copy", "(IIII)I"⟩ ∈ o_TT := o_inT 501 (by decide +kernel) (by decide +kernel)
theorem w_503 : Cond.instanceMethod ⟨"TrapGate", "copy", "(IIII)I"⟩ ∈ o_TT := o_inT 503 (by decide +kernel) (by decide +kernel)
theorem w_504 : Cond.code ⟨"TrapGate", "copy", "(IIII)I"⟩ prog_1_method_40_code 5 (some .int) ∈ o_TT := o_inT 504 (by decide +kernel) (by decide +kernel)
theorem w_505 : Cond.methodLink "TrapGate" 143 ⟨"TrapGate", "protect", "(III)I"⟩ ∈ o_TT := o_inT 505 (by decide +kernel) (by decide +kernel)
theorem w_507 : Cond.instanceMethod ⟨"TrapGate", "protect", "(III)I"⟩ ∈ o_TT := o_inT 507 (by decide +kernel) (by decide +kernel)
theorem w_508 : Cond.code ⟨"TrapGate", "protect", "(III)I"⟩ prog_1_method_41_code 6 (some .int) ∈ o_TT := o_inT 508 (by decide +kernel) (by decide +kernel)
theorem w_509 : Cond.methodLink "TrapGate" 146 ⟨"TrapGate", "transferRanges", "(IIIII)I"⟩ ∈ o_TT := o_inT 509 (by decide +kernel) (by decide +kernel)
theorem w_511 : Cond.instanceMethod ⟨"TrapGate", "transferRanges", "(IIIII)I"⟩ ∈ o_TT := o_inT 511 (by decide +kernel) (by decide +kernel)
theorem w_512 : Cond.code ⟨"TrapGate", "transferRanges", "(IIIII)I"⟩ prog_1_method_23_code 7 (some .int) ∈ o_TT := o_inT 512 (by decide +kernel) (by decide +kernel)
theorem w_513 : Cond.methodLink "TrapGate" 225 ⟨"TrapGate", "takeRanges", "(IIII)Z"⟩ ∈ o_TT := o_inT 513 (by decide +kernel) (by decide +kernel)
theorem w_515 : Cond.instanceMethod ⟨"TrapGate", "takeRanges", "(IIII)Z"⟩ ∈ o_TT := o_inT 515 (by decide +kernel) (by decide +kernel)
theorem w_516 : Cond.code ⟨"TrapGate", "takeRanges", "(IIII)Z"⟩ prog_1_method_25_code 8 (some .boolean) ∈ o_TT := o_inT 516 (by decide +kernel) (by decide +kernel)
theorem w_517 : Cond.methodLink "TrapGate" 228 ⟨"TrapGate$Ranges", "clear", "()V"⟩ ∈ o_TT := o_inT 517 (by decide +kernel) (by decide +kernel)
theorem w_518 : Cond.methodLink "TrapGate" 234 ⟨"TrapGate$Ranges", "add", "(II)V"⟩ ∈ o_TT := o_inT 518 (by decide +kernel) (by decide +kernel)
theorem w_519 : Cond.methodLink "TrapGate" 149 ⟨"TrapGate", "rename", "(III)I"⟩ ∈ o_TT := o_inT 519 (by decide +kernel) (by decide +kernel)
theorem w_521 : Cond.instanceMethod ⟨"TrapGate", "rename", "(III)I"⟩ ∈ o_TT := o_inT 521 (by decide +kernel) (by decide +kernel)
theorem w_522 : Cond.code ⟨"TrapGate", "rename", "(III)I"⟩ prog_1_method_36_code 11 (some .int) ∈ o_TT := o_inT 522 (by decide +kernel) (by decide +kernel)
theorem w_523 : Cond.methodLink "TrapGateLaw" 49 ⟨"TrapGate", "call", "(IIIII)I"⟩ ∈ o_TT := o_inT 523 (by decide +kernel) (by decide +kernel)
theorem w_524 : Cond.instanceMethod ⟨"TrapGate", "call", "(IIIII)I"⟩ ∈ o_TT := o_inT 524 (by decide +kernel) (by decide +kernel)
theorem w_525 : Cond.selects "TrapGate" ⟨"TrapGate", "call", "(IIIII)I"⟩ ⟨"TrapGate", "call", "(IIIII)I"⟩ ∈ o_TT := o_inT 525 (by decide +kernel) (by decide +kernel)
theorem w_526 : Cond.code ⟨"TrapGate", "call", "(IIIII)I"⟩ prog_1_method_10_code 6 (some .int) ∈ o_TT := o_inT 526 (by decide +kernel) (by decide +kernel)
theorem w_527 : Cond.methodLink "TrapGate" 87 ⟨"TrapGate", "trap", "(II)I"⟩ ∈ o_TT := o_inT 527 (by decide +kernel) (by decide +kernel)
theorem w_528 : Cond.methodLink "TrapGateLaw" 54 ⟨"TrapGate", "traps", "()I"⟩ ∈ o_TT := o_inT 528 (by decide +kernel) (by decide +kernel)
theorem w_529 : Cond.instanceMethod ⟨"TrapGate", "traps", "()I"⟩ ∈ o_TT := o_inT 529 (by decide +kernel) (by decide +kernel)
theorem w_530 : Cond.selects "TrapGate" ⟨"TrapGate", "traps", "()I"⟩ ⟨"TrapGate", "traps", "()I"⟩ ∈ o_TT := o_inT 530 (by decide +kernel) (by decide +kernel)
theorem w_531 : Cond.code ⟨"TrapGate", "traps", "()I"⟩ prog_1_method_11_code 1 (some .int) ∈ o_TT := o_inT 531 (by decide +kernel) (by decide +kernel)
theorem w_532 : Cond.methodLink "TrapGateLaw" 59 ⟨"TrapGate", "count", "(I)I"⟩ ∈ o_TT := o_inT 532 (by decide +kernel) (by decide +kernel)
theorem w_533 : Cond.instanceMethod ⟨"TrapGate", "count", "(I)I"⟩ ∈ o_TT := o_inT 533 (by decide +kernel) (by decide +kernel)
theorem w_534 : Cond.selects "TrapGate" ⟨"TrapGate", "count", "(I)I"⟩ ⟨"TrapGate", "count", "(I)I"⟩ ∈ o_TT := o_inT 534 (by decide +kernel) (by decide +kernel)
theorem w_535 : Cond.code ⟨"TrapGate", "count", "(I)I"⟩ prog_1_method_12_code 2 (some .int) ∈ o_TT := o_inT 535 (by decide +kernel) (by decide +kernel)
theorem w_536 : Cond.methodLink "TrapGate" 90 ⟨"TrapGate", "filesThere", "()I"⟩ ∈ o_TT := o_inT 536 (by decide +kernel) (by decide +kernel)
theorem w_538 : Cond.instanceMethod ⟨"TrapGate", "filesThere", "()I"⟩ ∈ o_TT := o_inT 538 (by decide +kernel) (by decide +kernel)
theorem w_539 : Cond.code ⟨"TrapGate", "filesThere", "()I"⟩ prog_1_method_44_code 3 (some .int) ∈ o_TT := o_inT 539 (by decide +kernel) (by decide +kernel)
theorem w_540 : Cond.methodLink "TrapGate" 97 ⟨"TrapGate$Opens", "there", "()I"⟩ ∈ o_TT := o_inT 540 (by decide +kernel) (by decide +kernel)
theorem w_541 : Cond.instanceMethod ⟨"TrapGate$Opens", "there", "()I"⟩ ∈ o_TT := o_inT 541 (by decide +kernel) (by decide +kernel)
theorem w_542 : Cond.selects "TrapGate$Opens" ⟨"TrapGate$Opens", "there", "()I"⟩ ⟨"TrapGate$Opens", "there", "()I"⟩ ∈ o_TT := o_inT 542 (by decide +kernel) (by decide +kernel)
theorem w_543 : Cond.code ⟨"TrapGate$Opens", "there", "()I"⟩ prog_4_method_9_code 3 (some .int) ∈ o_TT := o_inT 543 (by decide +kernel) (by decide +kernel)
theorem w_544 : Cond.methodLink "TrapGate" 100 ⟨"TrapGate", "pipesThere", "()I"⟩ ∈ o_TT := o_inT 544 (by decide +kernel) (by decide +kernel)
theorem w_546 : Cond.instanceMethod ⟨"TrapGate", "pipesThere", "()I"⟩ ∈ o_TT := o_inT 546 (by decide +kernel) (by decide +kernel)
theorem w_547 : Cond.code ⟨"TrapGate", "pipesThere", "()I"⟩ prog_1_method_45_code 3 (some .int) ∈ o_TT := o_inT 547 (by decide +kernel) (by decide +kernel)
theorem w_548 : Cond.methodLink "TrapGateLaw" 64 ⟨"TrapGate", "descriptors", "(I)I"⟩ ∈ o_TT := o_inT 548 (by decide +kernel) (by decide +kernel)
theorem w_549 : Cond.instanceMethod ⟨"TrapGate", "descriptors", "(I)I"⟩ ∈ o_TT := o_inT 549 (by decide +kernel) (by decide +kernel)
theorem w_550 : Cond.selects "TrapGate" ⟨"TrapGate", "descriptors", "(I)I"⟩ ⟨"TrapGate", "descriptors", "(I)I"⟩ ∈ o_TT := o_inT 550 (by decide +kernel) (by decide +kernel)
theorem w_551 : Cond.code ⟨"TrapGate", "descriptors", "(I)I"⟩ prog_1_method_13_code 2 (some .int) ∈ o_TT := o_inT 551 (by decide +kernel) (by decide +kernel)
theorem w_552 : Cond.methodLink "TrapGate" 103 ⟨"TrapGate$Opens", "descriptorsOf", "(I)I"⟩ ∈ o_TT := o_inT 552 (by decide +kernel) (by decide +kernel)
theorem w_553 : Cond.instanceMethod ⟨"TrapGate$Opens", "descriptorsOf", "(I)I"⟩ ∈ o_TT := o_inT 553 (by decide +kernel) (by decide +kernel)
theorem w_554 : Cond.selects "TrapGate$Opens" ⟨"TrapGate$Opens", "descriptorsOf", "(I)I"⟩ ⟨"TrapGate$Opens", "descriptorsOf", "(I)I"⟩ ∈ o_TT := o_inT 554 (by decide +kernel) (by decide +kernel)
theorem w_555 : Cond.code ⟨"TrapGate$Opens", "descriptorsOf", "(I)I"⟩ prog_4_method_7_code 4 (some .int) ∈ o_TT := o_inT 555 (by decide +kernel) (by decide +kernel)
theorem w_556 : Cond.classLink "TrapGateLaw" 10 "TrapGateModel" ∈ o_TT := o_inT 556 (by decide +kernel) (by decide +kernel)
theorem w_557 : Cond.instantiable "TrapGateModel" 28 ∈ o_TT := o_inT 557 (by decide +kernel) (by decide +kernel)
theorem w_558 : Cond.methodLink "TrapGateLaw" 12 ⟨"TrapGateModel", "<init>", "()V"⟩ ∈ o_TT := o_inT 558 (by decide +kernel) (by decide +kernel)
theorem w_559 : Cond.instanceMethod ⟨"TrapGateModel", "<init>", "()V"⟩ ∈ o_TT := o_inT 559 (by decide +kernel) (by decide +kernel)
theorem w_560 : Cond.code ⟨"TrapGateModel", "<init>", "()V"⟩ prog_9_method_1_code 1 none ∈ o_TT := o_inT 560 (by decide +kernel) (by decide +kernel)
theorem w_561 : Cond.methodLink "TrapGateModel" 1 ⟨"java/lang/Object", "<init>", "()V"⟩ ∈ o_TT := o_inT 561 (by decide +kernel) (by decide +kernel)
theorem w_562 : Cond.fieldLink "TrapGateModel" 7 "TrapGateModel" "memory" "[I" ∈ o_TT := o_inT 562 (by decide +kernel) (by decide +kernel)
theorem w_563 : Cond.fieldLink "TrapGateModel" 13 "TrapGateModel" "frames" "[I" ∈ o_TT := o_inT 563 (by decide +kernel) (by decide +kernel)
theorem w_564 : Cond.fieldLink "TrapGateModel" 16 "TrapGateModel" "flags" "[I" ∈ o_TT := o_inT 564 (by decide +kernel) (by decide +kernel)
theorem w_565 : Cond.fieldLink "TrapGateModel" 19 "TrapGateModel" "registers" "[I" ∈ o_TT := o_inT 565 (by decide +kernel) (by decide +kernel)
theorem w_566 : Cond.fieldLink "TrapGateModel" 115 "TrapGateModel" "traps" "I" ∈ o_TT := o_inT 566 (by decide +kernel) (by decide +kernel)
theorem w_567 : Cond.fieldLink "TrapGateModel" 22 "TrapGateModel" "file" "[Z" ∈ o_TT := o_inT 567 (by decide +kernel) (by decide +kernel)
theorem w_568 : Cond.fieldLink "TrapGateModel" 26 "TrapGateModel" "size" "[I" ∈ o_TT := o_inT 568 (by decide +kernel) (by decide +kernel)
theorem w_569 : Cond.fieldLink "TrapGateModel" 29 "TrapGateModel" "data" "[I" ∈ o_TT := o_inT 569 (by decide +kernel) (by decide +kernel)
theorem w_570 : Cond.fieldLink "TrapGateModel" 32 "TrapGateModel" "nameSize" "[I" ∈ o_TT := o_inT 570 (by decide +kernel) (by decide +kernel)
theorem w_571 : Cond.fieldLink "TrapGateModel" 35 "TrapGateModel" "nameBytes" "[I" ∈ o_TT := o_inT 571 (by decide +kernel) (by decide +kernel)
theorem w_572 : Cond.fieldLink "TrapGateModel" 38 "TrapGateModel" "nameFile" "[I" ∈ o_TT := o_inT 572 (by decide +kernel) (by decide +kernel)
theorem w_573 : Cond.fieldLink "TrapGateModel" 41 "TrapGateModel" "kind" "[I" ∈ o_TT := o_inT 573 (by decide +kernel) (by decide +kernel)
theorem w_574 : Cond.fieldLink "TrapGateModel" 44 "TrapGateModel" "of" "[I" ∈ o_TT := o_inT 574 (by decide +kernel) (by decide +kernel)
theorem w_575 : Cond.fieldLink "TrapGateModel" 47 "TrapGateModel" "position" "[I" ∈ o_TT := o_inT 575 (by decide +kernel) (by decide +kernel)
theorem w_576 : Cond.fieldLink "TrapGateModel" 50 "TrapGateModel" "mode" "[I" ∈ o_TT := o_inT 576 (by decide +kernel) (by decide +kernel)
theorem w_577 : Cond.fieldLink "TrapGateModel" 53 "TrapGateModel" "pipe" "[Z" ∈ o_TT := o_inT 577 (by decide +kernel) (by decide +kernel)
theorem w_578 : Cond.fieldLink "TrapGateModel" 56 "TrapGateModel" "held" "[I" ∈ o_TT := o_inT 578 (by decide +kernel) (by decide +kernel)
theorem w_579 : Cond.fieldLink "TrapGateModel" 59 "TrapGateModel" "inPipe" "[I" ∈ o_TT := o_inT 579 (by decide +kernel) (by decide +kernel)
theorem w_580 : Cond.fieldLink "TrapGateModel" 62 "TrapGateModel" "descriptor" "[I" ∈ o_TT := o_inT 580 (by decide +kernel) (by decide +kernel)
theorem w_581 : Cond.fieldLink "TrapGateModel" 92 "TrapGateModel" "who" "I" ∈ o_TT := o_inT 581 (by decide +kernel) (by decide +kernel)
theorem w_582 : Cond.fieldLink "TrapGateModel" 96 "TrapGateModel" "a0" "I" ∈ o_TT := o_inT 582 (by decide +kernel) (by decide +kernel)
theorem w_583 : Cond.fieldLink "TrapGateModel" 99 "TrapGateModel" "a1" "I" ∈ o_TT := o_inT 583 (by decide +kernel) (by decide +kernel)
theorem w_584 : Cond.fieldLink "TrapGateModel" 102 "TrapGateModel" "a2" "I" ∈ o_TT := o_inT 584 (by decide +kernel) (by decide +kernel)
theorem w_585 : Cond.fieldLink "TrapGateModel" 162 "TrapGateModel" "spots" "I" ∈ o_TT := o_inT 585 (by decide +kernel) (by decide +kernel)
theorem w_586 : Cond.fieldLink "TrapGateModel" 65 "TrapGateModel" "spot" "[I" ∈ o_TT := o_inT 586 (by decide +kernel) (by decide +kernel)
theorem w_587 : Cond.fieldLink "TrapGateModel" 68 "TrapGateModel" "taken" "[I" ∈ o_TT := o_inT 587 (by decide +kernel) (by decide +kernel)
theorem w_588 : Cond.fieldLink "TrapGateModel" 71 "TrapGateModel" "text" "[I" ∈ o_TT := o_inT 588 (by decide +kernel) (by decide +kernel)
theorem w_589 : Cond.fieldLink "TrapGateModel" 74 "TrapGateModel" "textSize" "[I" ∈ o_TT := o_inT 589 (by decide +kernel) (by decide +kernel)
theorem w_590 : Cond.laysFinal "TrapGateModel" "TrapGateModel" "memory" "[I" ∈ o_TT := o_inT 590 (by decide +kernel) (by decide +kernel)
theorem w_592 : Cond.laysFinal "TrapGateModel" "TrapGateModel" "frames" "[I" ∈ o_TT := o_inT 592 (by decide +kernel) (by decide +kernel)
theorem w_594 : Cond.laysFinal "TrapGateModel" "TrapGateModel" "flags" "[I" ∈ o_TT := o_inT 594 (by decide +kernel) (by decide +kernel)
theorem w_596 : Cond.laysFinal "TrapGateModel" "TrapGateModel" "registers" "[I" ∈ o_TT := o_inT 596 (by decide +kernel) (by decide +kernel)
theorem w_598 : Cond.lays "TrapGateModel" "TrapGateModel" "traps" "I" ∈ o_TT := o_inT 598 (by decide +kernel) (by decide +kernel)
theorem w_600 : Cond.laysFinal "TrapGateModel" "TrapGateModel" "file" "[Z" ∈ o_TT := o_inT 600 (by decide +kernel) (by decide +kernel)
theorem w_602 : Cond.laysFinal "TrapGateModel" "TrapGateModel" "size" "[I" ∈ o_TT := o_inT 602 (by decide +kernel) (by decide +kernel)
theorem w_604 : Cond.laysFinal "TrapGateModel" "TrapGateModel" "data" "[I" ∈ o_TT := o_inT 604 (by decide +kernel) (by decide +kernel)
theorem w_606 : Cond.laysFinal "TrapGateModel" "TrapGateModel" "nameSize" "[I" ∈ o_TT := o_inT 606 (by decide +kernel) (by decide +kernel)
theorem w_608 : Cond.laysFinal "TrapGateModel" "TrapGateModel" "nameBytes" "[I" ∈ o_TT := o_inT 608 (by decide +kernel) (by decide +kernel)
theorem w_610 : Cond.laysFinal "TrapGateModel" "TrapGateModel" "nameFile" "[I" ∈ o_TT := o_inT 610 (by decide +kernel) (by decide +kernel)
theorem w_612 : Cond.laysFinal "TrapGateModel" "TrapGateModel" "kind" "[I" ∈ o_TT := o_inT 612 (by decide +kernel) (by decide +kernel)
theorem w_614 : Cond.laysFinal "TrapGateModel" "TrapGateModel" "of" "[I" ∈ o_TT := o_inT 614 (by decide +kernel) (by decide +kernel)
theorem w_616 : Cond.laysFinal "TrapGateModel" "TrapGateModel" "position" "[I" ∈ o_TT := o_inT 616 (by decide +kernel) (by decide +kernel)
theorem w_618 : Cond.laysFinal "TrapGateModel" "TrapGateModel" "mode" "[I" ∈ o_TT := o_inT 618 (by decide +kernel) (by decide +kernel)
theorem w_620 : Cond.laysFinal "TrapGateModel" "TrapGateModel" "pipe" "[Z" ∈ o_TT := o_inT 620 (by decide +kernel) (by decide +kernel)
theorem w_622 : Cond.laysFinal "TrapGateModel" "TrapGateModel" "held" "[I" ∈ o_TT := o_inT 622 (by decide +kernel) (by decide +kernel)
theorem w_624 : Cond.laysFinal "TrapGateModel" "TrapGateModel" "inPipe" "[I" ∈ o_TT := o_inT 624 (by decide +kernel) (by decide +kernel)
theorem w_626 : Cond.laysFinal "TrapGateModel" "TrapGateModel" "descriptor" "[I" ∈ o_TT := o_inT 626 (by decide +kernel) (by decide +kernel)
theorem w_628 : Cond.lays "TrapGateModel" "TrapGateModel" "who" "I" ∈ o_TT := o_inT 628 (by decide +kernel) (by decide +kernel)
theorem w_630 : Cond.lays "TrapGateModel" "TrapGateModel" "a0" "I" ∈ o_TT := o_inT 630 (by decide +kernel) (by decide +kernel)
theorem w_632 : Cond.lays "TrapGateModel" "TrapGateModel" "a1" "I" ∈ o_TT := o_inT 632 (by decide +kernel) (by decide +kernel)
theorem w_634 : Cond.lays "TrapGateModel" "TrapGateModel" "a2" "I" ∈ o_TT := o_inT 634 (by decide +kernel) (by decide +kernel)
theorem w_636 : Cond.lays "TrapGateModel" "TrapGateModel" "spots" "I" ∈ o_TT := o_inT 636 (by decide +kernel) (by decide +kernel)
theorem w_638 : Cond.laysFinal "TrapGateModel" "TrapGateModel" "spot" "[I" ∈ o_TT := o_inT 638 (by decide +kernel) (by decide +kernel)
theorem w_640 : Cond.laysFinal "TrapGateModel" "TrapGateModel" "taken" "[I" ∈ o_TT := o_inT 640 (by decide +kernel) (by decide +kernel)
theorem w_642 : Cond.laysFinal "TrapGateModel" "TrapGateModel" "text" "[I" ∈ o_TT := o_inT 642 (by decide +kernel) (by decide +kernel)
theorem w_644 : Cond.laysFinal "TrapGateModel" "TrapGateModel" "textSize" "[I" ∈ o_TT := o_inT 644 (by decide +kernel) (by decide +kernel)
theorem w_647 : Cond.arrayClass .boolean ∈ o_TT := o_inT 647 (by decide +kernel) (by decide +kernel)
theorem w_648 : Cond.methodLink "TrapGateLaw" 17 ⟨"TrapGateModel", "map", "(IIII)Z"⟩ ∈ o_TT := o_inT 648 (by decide +kernel) (by decide +kernel)
theorem w_649 : Cond.instanceMethod ⟨"TrapGateModel", "map", "(IIII)Z"⟩ ∈ o_TT := o_inT 649 (by decide +kernel) (by decide +kernel)
theorem w_650 : Cond.selects "TrapGateModel" ⟨"TrapGateModel", "map", "(IIII)Z"⟩ ⟨"TrapGateModel", "map", "(IIII)Z"⟩ ∈ o_TT := o_inT 650 (by decide +kernel) (by decide +kernel)
theorem w_651 : Cond.code ⟨"TrapGateModel", "map", "(IIII)Z"⟩ prog_9_method_4_code 5 (some .boolean) ∈ o_TT := o_inT 651 (by decide +kernel) (by decide +kernel)
theorem w_652 : Cond.methodLink "TrapGateModel" 81 ⟨"TrapGateModel", "isPage", "(II)Z"⟩ ∈ o_TT := o_inT 652 (by decide +kernel) (by decide +kernel)
theorem w_653 : Cond.static ⟨"TrapGateModel", "isPage", "(II)Z"⟩ ∈ o_TT := o_inT 653 (by decide +kernel) (by decide +kernel)
theorem w_654 : Cond.code ⟨"TrapGateModel", "isPage", "(II)Z"⟩ prog_9_method_3_code 2 (some .boolean) ∈ o_TT := o_inT 654 (by decide +kernel) (by decide +kernel)
theorem w_655 : Cond.methodLink "TrapGateModel" 77 ⟨"TrapGateModel", "isProcess", "(I)Z"⟩ ∈ o_TT := o_inT 655 (by decide +kernel) (by decide +kernel)
theorem w_656 : Cond.static ⟨"TrapGateModel", "isProcess", "(I)Z"⟩ ∈ o_TT := o_inT 656 (by decide +kernel) (by decide +kernel)
theorem w_657 : Cond.code ⟨"TrapGateModel", "isProcess", "(I)Z"⟩ prog_9_method_2_code 1 (some .boolean) ∈ o_TT := o_inT 657 (by decide +kernel) (by decide +kernel)
theorem w_658 : Cond.methodLink "TrapGateLaw" 22 ⟨"TrapGateModel", "unmap", "(II)Z"⟩ ∈ o_TT := o_inT 658 (by decide +kernel) (by decide +kernel)
theorem w_659 : Cond.instanceMethod ⟨"TrapGateModel", "unmap", "(II)Z"⟩ ∈ o_TT := o_inT 659 (by decide +kernel) (by decide +kernel)
theorem w_660 : Cond.selects "TrapGateModel" ⟨"TrapGateModel", "unmap", "(II)Z"⟩ ⟨"TrapGateModel", "unmap", "(II)Z"⟩ ∈ o_TT := o_inT 660 (by decide +kernel) (by decide +kernel)
theorem w_661 : Cond.code ⟨"TrapGateModel", "unmap", "(II)Z"⟩ prog_9_method_5_code 3 (some .boolean) ∈ o_TT := o_inT 661 (by decide +kernel) (by decide +kernel)
theorem w_662 : Cond.methodLink "TrapGateLaw" 27 ⟨"TrapGateModel", "page", "(II)I"⟩ ∈ o_TT := o_inT 662 (by decide +kernel) (by decide +kernel)
theorem w_663 : Cond.instanceMethod ⟨"TrapGateModel", "page", "(II)I"⟩ ∈ o_TT := o_inT 663 (by decide +kernel) (by decide +kernel)
theorem w_664 : Cond.selects "TrapGateModel" ⟨"TrapGateModel", "page", "(II)I"⟩ ⟨"TrapGateModel", "page", "(II)I"⟩ ∈ o_TT := o_inT 664 (by decide +kernel) (by decide +kernel)
theorem w_665 : Cond.code ⟨"TrapGateModel", "page", "(II)I"⟩ prog_9_method_6_code 3 (some .int) ∈ o_TT := o_inT 665 (by decide +kernel) (by decide +kernel)
theorem w_666 : Cond.methodLink "TrapGateLaw" 32 ⟨"TrapGateModel", "poke", "(III)Z"⟩ ∈ o_TT := o_inT 666 (by decide +kernel) (by decide +kernel)
theorem w_667 : Cond.instanceMethod ⟨"TrapGateModel", "poke", "(III)Z"⟩ ∈ o_TT := o_inT 667 (by decide +kernel) (by decide +kernel)
theorem w_668 : Cond.selects "TrapGateModel" ⟨"TrapGateModel", "poke", "(III)Z"⟩ ⟨"TrapGateModel", "poke", "(III)Z"⟩ ∈ o_TT := o_inT 668 (by decide +kernel) (by decide +kernel)
theorem w_669 : Cond.code ⟨"TrapGateModel", "poke", "(III)Z"⟩ prog_9_method_8_code 4 (some .boolean) ∈ o_TT := o_inT 669 (by decide +kernel) (by decide +kernel)
theorem w_670 : Cond.methodLink "TrapGateModel" 85 ⟨"TrapGateModel", "isByte", "(II)Z"⟩ ∈ o_TT := o_inT 670 (by decide +kernel) (by decide +kernel)
theorem w_671 : Cond.static ⟨"TrapGateModel", "isByte", "(II)Z"⟩ ∈ o_TT := o_inT 671 (by decide +kernel) (by decide +kernel)
theorem w_672 : Cond.code ⟨"TrapGateModel", "isByte", "(II)Z"⟩ prog_9_method_7_code 2 (some .boolean) ∈ o_TT := o_inT 672 (by decide +kernel) (by decide +kernel)
theorem w_673 : Cond.methodLink "TrapGateLaw" 36 ⟨"TrapGateModel", "peek", "(II)I"⟩ ∈ o_TT := o_inT 673 (by decide +kernel) (by decide +kernel)
theorem w_674 : Cond.instanceMethod ⟨"TrapGateModel", "peek", "(II)I"⟩ ∈ o_TT := o_inT 674 (by decide +kernel) (by decide +kernel)
theorem w_675 : Cond.selects "TrapGateModel" ⟨"TrapGateModel", "peek", "(II)I"⟩ ⟨"TrapGateModel", "peek", "(II)I"⟩ ∈ o_TT := o_inT 675 (by decide +kernel) (by decide +kernel)
theorem w_676 : Cond.code ⟨"TrapGateModel", "peek", "(II)I"⟩ prog_9_method_9_code 3 (some .int) ∈ o_TT := o_inT 676 (by decide +kernel) (by decide +kernel)
theorem w_677 : Cond.methodLink "TrapGateLaw" 40 ⟨"TrapGateModel", "set", "(III)Z"⟩ ∈ o_TT := o_inT 677 (by decide +kernel) (by decide +kernel)
theorem w_678 : Cond.instanceMethod ⟨"TrapGateModel", "set", "(III)Z"⟩ ∈ o_TT := o_inT 678 (by decide +kernel) (by decide +kernel)
theorem w_679 : Cond.selects "TrapGateModel" ⟨"TrapGateModel", "set", "(III)Z"⟩ ⟨"TrapGateModel", "set", "(III)Z"⟩ ∈ o_TT := o_inT 679 (by decide +kernel) (by decide +kernel)
theorem w_680 : Cond.code ⟨"TrapGateModel", "set", "(III)Z"⟩ prog_9_method_10_code 4 (some .boolean) ∈ o_TT := o_inT 680 (by decide +kernel) (by decide +kernel)
theorem w_681 : Cond.methodLink "TrapGateLaw" 44 ⟨"TrapGateModel", "register", "(II)I"⟩ ∈ o_TT := o_inT 681 (by decide +kernel) (by decide +kernel)
theorem w_682 : Cond.instanceMethod ⟨"TrapGateModel", "register", "(II)I"⟩ ∈ o_TT := o_inT 682 (by decide +kernel) (by decide +kernel)
theorem w_683 : Cond.selects "TrapGateModel" ⟨"TrapGateModel", "register", "(II)I"⟩ ⟨"TrapGateModel", "register", "(II)I"⟩ ∈ o_TT := o_inT 683 (by decide +kernel) (by decide +kernel)
theorem w_684 : Cond.code ⟨"TrapGateModel", "register", "(II)I"⟩ prog_9_method_11_code 3 (some .int) ∈ o_TT := o_inT 684 (by decide +kernel) (by decide +kernel)
theorem w_685 : Cond.methodLink "TrapGateLaw" 53 ⟨"TrapGateModel", "call", "(IIIII)I"⟩ ∈ o_TT := o_inT 685 (by decide +kernel) (by decide +kernel)
theorem w_686 : Cond.instanceMethod ⟨"TrapGateModel", "call", "(IIIII)I"⟩ ∈ o_TT := o_inT 686 (by decide +kernel) (by decide +kernel)
theorem w_687 : Cond.selects "TrapGateModel" ⟨"TrapGateModel", "call", "(IIIII)I"⟩ ⟨"TrapGateModel", "call", "(IIIII)I"⟩ ∈ o_TT := o_inT 687 (by decide +kernel) (by decide +kernel)
theorem w_688 : Cond.code ⟨"TrapGateModel", "call", "(IIIII)I"⟩ prog_9_method_12_code 6 (some .int) ∈ o_TT := o_inT 688 (by decide +kernel) (by decide +kernel)
theorem w_689 : Cond.methodLink "TrapGateModel" 88 ⟨"TrapGateModel", "trap", "(II)I"⟩ ∈ o_TT := o_inT 689 (by decide +kernel) (by decide +kernel)
theorem w_690 : Cond.instanceMethod ⟨"TrapGateModel", "trap", "(II)I"⟩ ∈ o_TT := o_inT 690 (by decide +kernel) (by decide +kernel)
theorem w_691 : Cond.selects "TrapGateModel" ⟨"TrapGateModel", "trap", "(II)I"⟩ ⟨"TrapGateModel", "trap", "(II)I"⟩ ∈ o_TT := o_inT 691 (by decide +kernel) (by decide +kernel)
theorem w_692 : Cond.code ⟨"TrapGateModel", "trap", "(II)I"⟩ prog_9_method_13_code 4 (some .int) ∈ o_TT := o_inT 692 (by decide +kernel) (by decide +kernel)
theorem w_693 : Cond.methodLink "TrapGateModel" 105 ⟨"TrapGateModel", "first", "(I)I"⟩ ∈ o_TT := o_inT 693 (by decide +kernel) (by decide +kernel)
theorem w_695 : Cond.instanceMethod ⟨"TrapGateModel", "first", "(I)I"⟩ ∈ o_TT := o_inT 695 (by decide +kernel) (by decide +kernel)
theorem w_696 : Cond.code ⟨"TrapGateModel", "first", "(I)I"⟩ prog_9_method_14_code 2 (some .int) ∈ o_TT := o_inT 696 (by decide +kernel) (by decide +kernel)
theorem w_697 : Cond.methodLink "TrapGateModel" 118 ⟨"TrapGateModel", "open", "()I"⟩ ∈ o_TT := o_inT 697 (by decide +kernel) (by decide +kernel)
theorem w_699 : Cond.instanceMethod ⟨"TrapGateModel", "open", "()I"⟩ ∈ o_TT := o_inT 699 (by decide +kernel) (by decide +kernel)
theorem w_700 : Cond.code ⟨"TrapGateModel", "open", "()I"⟩ prog_9_method_35_code 4 (some .int) ∈ o_TT := o_inT 700 (by decide +kernel) (by decide +kernel)
theorem w_701 : Cond.methodLink "TrapGateModel" 177 ⟨"TrapGateModel", "string", "(II)Z"⟩ ∈ o_TT := o_inT 701 (by decide +kernel) (by decide +kernel)
theorem w_703 : Cond.instanceMethod ⟨"TrapGateModel", "string", "(II)Z"⟩ ∈ o_TT := o_inT 703 (by decide +kernel) (by decide +kernel)
theorem w_704 : Cond.code ⟨"TrapGateModel", "string", "(II)Z"⟩ prog_9_method_20_code 5 (some .boolean) ∈ o_TT := o_inT 704 (by decide +kernel) (by decide +kernel)
theorem w_705 : Cond.methodLink "TrapGateModel" 159 ⟨"TrapGateModel", "place", "(II)I"⟩ ∈ o_TT := o_inT 705 (by decide +kernel) (by decide +kernel)
theorem w_707 : Cond.instanceMethod ⟨"TrapGateModel", "place", "(II)I"⟩ ∈ o_TT := o_inT 707 (by decide +kernel) (by decide +kernel)
theorem w_708 : Cond.code ⟨"TrapGateModel", "place", "(II)I"⟩ prog_9_method_17_code 4 (some .int) ∈ o_TT := o_inT 708 (by decide +kernel) (by decide +kernel)
theorem w_709 : Cond.methodLink "TrapGateModel" 180 ⟨"TrapGateModel", "name", "(I)I"⟩ ∈ o_TT := o_inT 709 (by decide +kernel) (by decide +kernel)
theorem w_711 : Cond.instanceMethod ⟨"TrapGateModel", "name", "(I)I"⟩ ∈ o_TT := o_inT 711 (by decide +kernel) (by decide +kernel)
theorem w_712 : Cond.code ⟨"TrapGateModel", "name", "(I)I"⟩ prog_9_method_22_code 3 (some .int) ∈ o_TT := o_inT 712 (by decide +kernel) (by decide +kernel)
theorem w_713 : Cond.methodLink "TrapGateModel" 165 ⟨"TrapGateModel", "isName", "(II)Z"⟩ ∈ o_TT := o_inT 713 (by decide +kernel) (by decide +kernel)
theorem w_715 : Cond.instanceMethod ⟨"TrapGateModel", "isName", "(II)Z"⟩ ∈ o_TT := o_inT 715 (by decide +kernel) (by decide +kernel)
theorem w_716 : Cond.code ⟨"TrapGateModel", "isName", "(II)Z"⟩ prog_9_method_21_code 5 (some .boolean) ∈ o_TT := o_inT 716 (by decide +kernel) (by decide +kernel)
theorem w_717 : Cond.methodLink "TrapGateModel" 183 ⟨"TrapGateModel", "freeDescriptor", "()I"⟩ ∈ o_TT := o_inT 717 (by decide +kernel) (by decide +kernel)
theorem w_719 : Cond.instanceMethod ⟨"TrapGateModel", "freeDescriptor", "()I"⟩ ∈ o_TT := o_inT 719 (by decide +kernel) (by decide +kernel)
theorem w_720 : Cond.code ⟨"TrapGateModel", "freeDescriptor", "()I"⟩ prog_9_method_27_code 2 (some .int) ∈ o_TT := o_inT 720 (by decide +kernel) (by decide +kernel)
theorem w_721 : Cond.methodLink "TrapGateModel" 174 ⟨"TrapGateModel", "freeOpen", "()I"⟩ ∈ o_TT := o_inT 721 (by decide +kernel) (by decide +kernel)
theorem w_723 : Cond.instanceMethod ⟨"TrapGateModel", "freeOpen", "()I"⟩ ∈ o_TT := o_inT 723 (by decide +kernel) (by decide +kernel)
theorem w_724 : Cond.code ⟨"TrapGateModel", "freeOpen", "()I"⟩ prog_9_method_26_code 2 (some .int) ∈ o_TT := o_inT 724 (by decide +kernel) (by decide +kernel)
theorem w_725 : Cond.methodLink "TrapGateModel" 186 ⟨"TrapGateModel", "freeFile", "()I"⟩ ∈ o_TT := o_inT 725 (by decide +kernel) (by decide +kernel)
theorem w_727 : Cond.instanceMethod ⟨"TrapGateModel", "freeFile", "()I"⟩ ∈ o_TT := o_inT 727 (by decide +kernel) (by decide +kernel)
theorem w_728 : Cond.code ⟨"TrapGateModel", "freeFile", "()I"⟩ prog_9_method_25_code 2 (some .int) ∈ o_TT := o_inT 728 (by decide +kernel) (by decide +kernel)
theorem w_729 : Cond.methodLink "TrapGateModel" 189 ⟨"TrapGateModel", "freeName", "()I"⟩ ∈ o_TT := o_inT 729 (by decide +kernel) (by decide +kernel)
theorem w_731 : Cond.instanceMethod ⟨"TrapGateModel", "freeName", "()I"⟩ ∈ o_TT := o_inT 731 (by decide +kernel) (by decide +kernel)
theorem w_732 : Cond.code ⟨"TrapGateModel", "freeName", "()I"⟩ prog_9_method_24_code 2 (some .int) ∈ o_TT := o_inT 732 (by decide +kernel) (by decide +kernel)
theorem w_733 : Cond.methodLink "TrapGateModel" 192 ⟨"TrapGateModel", "give", "(III)V"⟩ ∈ o_TT := o_inT 733 (by decide +kernel) (by decide +kernel)
theorem w_735 : Cond.instanceMethod ⟨"TrapGateModel", "give", "(III)V"⟩ ∈ o_TT := o_inT 735 (by decide +kernel) (by decide +kernel)
theorem w_736 : Cond.code ⟨"TrapGateModel", "give", "(III)V"⟩ prog_9_method_23_code 5 none ∈ o_TT := o_inT 736 (by decide +kernel) (by decide +kernel)
theorem w_737 : Cond.methodLink "TrapGateModel" 196 ⟨"TrapGateModel", "newOpen", "(IIII)I"⟩ ∈ o_TT := o_inT 737 (by decide +kernel) (by decide +kernel)
theorem w_739 : Cond.instanceMethod ⟨"TrapGateModel", "newOpen", "(IIII)I"⟩ ∈ o_TT := o_inT 739 (by decide +kernel) (by decide +kernel)
theorem w_740 : Cond.code ⟨"TrapGateModel", "newOpen", "(IIII)I"⟩ prog_9_method_34_code 6 (some .int) ∈ o_TT := o_inT 740 (by decide +kernel) (by decide +kernel)
theorem w_741 : Cond.methodLink "TrapGateModel" 122 ⟨"TrapGateModel", "close", "()I"⟩ ∈ o_TT := o_inT 741 (by decide +kernel) (by decide +kernel)
theorem w_743 : Cond.instanceMethod ⟨"TrapGateModel", "close", "()I"⟩ ∈ o_TT := o_inT 743 (by decide +kernel) (by decide +kernel)
theorem w_744 : Cond.code ⟨"TrapGateModel", "close", "()I"⟩ prog_9_method_36_code 1 (some .int) ∈ o_TT := o_inT 744 (by decide +kernel) (by decide +kernel)
theorem w_745 : Cond.methodLink "TrapGateModel" 200 ⟨"TrapGateModel", "opened", "()I"⟩ ∈ o_TT := o_inT 745 (by decide +kernel) (by decide +kernel)
theorem w_747 : Cond.instanceMethod ⟨"TrapGateModel", "opened", "()I"⟩ ∈ o_TT := o_inT 747 (by decide +kernel) (by decide +kernel)
theorem w_748 : Cond.code ⟨"TrapGateModel", "opened", "()I"⟩ prog_9_method_28_code 1 (some .int) ∈ o_TT := o_inT 748 (by decide +kernel) (by decide +kernel)
theorem w_749 : Cond.methodLink "TrapGateModel" 125 ⟨"TrapGateModel", "transfer", "(ZZ)I"⟩ ∈ o_TT := o_inT 749 (by decide +kernel) (by decide +kernel)
theorem w_751 : Cond.instanceMethod ⟨"TrapGateModel", "transfer", "(ZZ)I"⟩ ∈ o_TT := o_inT 751 (by decide +kernel) (by decide +kernel)
theorem w_752 : Cond.code ⟨"TrapGateModel", "transfer", "(ZZ)I"⟩ prog_9_method_40_code 4 (some .int) ∈ o_TT := o_inT 752 (by decide +kernel) (by decide +kernel)
theorem w_753 : Cond.methodLink "TrapGateModel" 210 ⟨"TrapGateModel", "gather", "(ZZ)Z"⟩ ∈ o_TT := o_inT 753 (by decide +kernel) (by decide +kernel)
theorem w_755 : Cond.instanceMethod ⟨"TrapGateModel", "gather", "(ZZ)Z"⟩ ∈ o_TT := o_inT 755 (by decide +kernel) (by decide +kernel)
theorem w_756 : Cond.code ⟨"TrapGateModel", "gather", "(ZZ)Z"⟩ prog_9_method_39_code 6 (some .boolean) ∈ o_TT := o_inT 756 (by decide +kernel) (by decide +kernel)
theorem w_757 : Cond.methodLink "TrapGateModel" 203 ⟨"TrapGateModel", "range", "(III)Z"⟩ ∈ o_TT := o_inT 757 (by decide +kernel) (by decide +kernel)
theorem w_759 : Cond.instanceMethod ⟨"TrapGateModel", "range", "(III)Z"⟩ ∈ o_TT := o_inT 759 (by decide +kernel) (by decide +kernel)
theorem w_760 : Cond.code ⟨"TrapGateModel", "range", "(III)Z"⟩ prog_9_method_18_code 7 (some .boolean) ∈ o_TT := o_inT 760 (by decide +kernel) (by decide +kernel)
theorem w_761 : Cond.methodLink "TrapGateModel" 207 ⟨"TrapGateModel", "take", "()V"⟩ ∈ o_TT := o_inT 761 (by decide +kernel) (by decide +kernel)
theorem w_763 : Cond.instanceMethod ⟨"TrapGateModel", "take", "()V"⟩ ∈ o_TT := o_inT 763 (by decide +kernel) (by decide +kernel)
theorem w_764 : Cond.code ⟨"TrapGateModel", "take", "()V"⟩ prog_9_method_19_code 2 none ∈ o_TT := o_inT 764 (by decide +kernel) (by decide +kernel)
theorem w_765 : Cond.methodLink "TrapGateModel" 214 ⟨"TrapGateModel", "toFile", "(I)I"⟩ ∈ o_TT := o_inT 765 (by decide +kernel) (by decide +kernel)
theorem w_767 : Cond.instanceMethod ⟨"TrapGateModel", "toFile", "(I)I"⟩ ∈ o_TT := o_inT 767 (by decide +kernel) (by decide +kernel)
theorem w_768 : Cond.code ⟨"TrapGateModel", "toFile", "(I)I"⟩ prog_9_method_42_code 4 (some .int) ∈ o_TT := o_inT 768 (by decide +kernel) (by decide +kernel)
theorem w_769 : Cond.methodLink "TrapGateModel" 217 ⟨"TrapGateModel", "toPipe", "(I)I"⟩ ∈ o_TT := o_inT 769 (by decide +kernel) (by decide +kernel)
theorem w_771 : Cond.instanceMethod ⟨"TrapGateModel", "toPipe", "(I)I"⟩ ∈ o_TT := o_inT 771 (by decide +kernel) (by decide +kernel)
theorem w_772 : Cond.code ⟨"TrapGateModel", "toPipe", "(I)I"⟩ prog_9_method_44_code 3 (some .int) ∈ o_TT := o_inT 772 (by decide +kernel) (by decide +kernel)
theorem w_773 : Cond.methodLink "TrapGateModel" 171 ⟨"TrapGateModel", "opensOf", "(II)I"⟩ ∈ o_TT := o_inT 773 (by decide +kernel) (by decide +kernel)
theorem w_775 : Cond.instanceMethod ⟨"TrapGateModel", "opensOf", "(II)I"⟩ ∈ o_TT := o_inT 775 (by decide +kernel) (by decide +kernel)
theorem w_776 : Cond.code ⟨"TrapGateModel", "opensOf", "(II)I"⟩ prog_9_method_30_code 5 (some .int) ∈ o_TT := o_inT 776 (by decide +kernel) (by decide +kernel)
theorem w_777 : Cond.methodLink "TrapGateModel" 220 ⟨"TrapGateModel", "fromFile", "(I)I"⟩ ∈ o_TT := o_inT 777 (by decide +kernel) (by decide +kernel)
theorem w_779 : Cond.instanceMethod ⟨"TrapGateModel", "fromFile", "(I)I"⟩ ∈ o_TT := o_inT 779 (by decide +kernel) (by decide +kernel)
theorem w_780 : Cond.code ⟨"TrapGateModel", "fromFile", "(I)I"⟩ prog_9_method_41_code 4 (some .int) ∈ o_TT := o_inT 780 (by decide +kernel) (by decide +kernel)
theorem w_781 : Cond.methodLink "TrapGateModel" 223 ⟨"TrapGateModel", "fromPipe", "(I)I"⟩ ∈ o_TT := o_inT 781 (by decide +kernel) (by decide +kernel)
theorem w_783 : Cond.instanceMethod ⟨"TrapGateModel", "fromPipe", "(I)I"⟩ ∈ o_TT := o_inT 783 (by decide +kernel) (by decide +kernel)
theorem w_784 : Cond.code ⟨"TrapGateModel", "fromPipe", "(I)I"⟩ prog_9_method_43_code 4 (some .int) ∈ o_TT := o_inT 784 (by decide +kernel) (by decide +kernel)
theorem w_785 : Cond.methodLink "TrapGateModel" 129 ⟨"TrapGateModel", "seek", "()I"⟩ ∈ o_TT := o_inT 785 (by decide +kernel) (by decide +kernel)
theorem w_787 : Cond.instanceMethod ⟨"TrapGateModel", "seek", "()I"⟩ ∈ o_TT := o_inT 787 (by decide +kernel) (by decide +kernel)
theorem w_788 : Cond.code ⟨"TrapGateModel", "seek", "()I"⟩ prog_9_method_38_code 2 (some .int) ∈ o_TT := o_inT 788 (by decide +kernel) (by decide +kernel)
theorem w_789 : Cond.methodLink "TrapGateModel" 132 ⟨"TrapGateModel", "dup", "()I"⟩ ∈ o_TT := o_inT 789 (by decide +kernel) (by decide +kernel)
theorem w_791 : Cond.instanceMethod ⟨"TrapGateModel", "dup", "()I"⟩ ∈ o_TT := o_inT 791 (by decide +kernel) (by decide +kernel)
theorem w_792 : Cond.code ⟨"TrapGateModel", "dup", "()I"⟩ prog_9_method_37_code 3 (some .int) ∈ o_TT := o_inT 792 (by decide +kernel) (by decide +kernel)
theorem w_793 : Cond.methodLink "TrapGateModel" 135 ⟨"TrapGateModel", "unlink", "()I"⟩ ∈ o_TT := o_inT 793 (by decide +kernel) (by decide +kernel)
theorem w_795 : Cond.instanceMethod ⟨"TrapGateModel", "unlink", "()I"⟩ ∈ o_TT := o_inT 795 (by decide +kernel) (by decide +kernel)
theorem w_796 : Cond.code ⟨"TrapGateModel", "unlink", "()I"⟩ prog_9_method_45_code 2 (some .int) ∈ o_TT := o_inT 796 (by decide +kernel) (by decide +kernel)
theorem w_797 : Cond.methodLink "TrapGateModel" 109 ⟨"TrapGateModel", "second", "(I)I"⟩ ∈ o_TT := o_inT 797 (by decide +kernel) (by decide +kernel)
theorem w_799 : Cond.instanceMethod ⟨"TrapGateModel", "second", "(I)I"⟩ ∈ o_TT := o_inT 799 (by decide +kernel) (by decide +kernel)
theorem w_800 : Cond.code ⟨"TrapGateModel", "second", "(I)I"⟩ prog_9_method_15_code 2 (some .int) ∈ o_TT := o_inT 800 (by decide +kernel) (by decide +kernel)
theorem w_801 : Cond.methodLink "TrapGateModel" 138 ⟨"TrapGateModel", "link", "()I"⟩ ∈ o_TT := o_inT 801 (by decide +kernel) (by decide +kernel)
theorem w_803 : Cond.instanceMethod ⟨"TrapGateModel", "link", "()I"⟩ ∈ o_TT := o_inT 803 (by decide +kernel) (by decide +kernel)
theorem w_804 : Cond.code ⟨"TrapGateModel", "link", "()I"⟩ prog_9_method_47_code 2 (some .int) ∈ o_TT := o_inT 804 (by decide +kernel) (by decide +kernel)
theorem w_805 : Cond.methodLink "TrapGateModel" 226 ⟨"TrapGateModel", "strings", "()Z"⟩ ∈ o_TT := o_inT 805 (by decide +kernel) (by decide +kernel)
theorem w_807 : Cond.instanceMethod ⟨"TrapGateModel", "strings", "()Z"⟩ ∈ o_TT := o_inT 807 (by decide +kernel) (by decide +kernel)
theorem w_808 : Cond.code ⟨"TrapGateModel", "strings", "()Z"⟩ prog_9_method_46_code 1 (some .boolean) ∈ o_TT := o_inT 808 (by decide +kernel) (by decide +kernel)
theorem w_809 : Cond.methodLink "TrapGateModel" 141 ⟨"TrapGateModel", "stat", "()I"⟩ ∈ o_TT := o_inT 809 (by decide +kernel) (by decide +kernel)
theorem w_811 : Cond.instanceMethod ⟨"TrapGateModel", "stat", "()I"⟩ ∈ o_TT := o_inT 811 (by decide +kernel) (by decide +kernel)
theorem w_812 : Cond.code ⟨"TrapGateModel", "stat", "()I"⟩ prog_9_method_49_code 3 (some .int) ∈ o_TT := o_inT 812 (by decide +kernel) (by decide +kernel)
theorem w_813 : Cond.methodLink "TrapGateModel" 168 ⟨"TrapGateModel", "namesOf", "(I)I"⟩ ∈ o_TT := o_inT 813 (by decide +kernel) (by decide +kernel)
theorem w_815 : Cond.instanceMethod ⟨"TrapGateModel", "namesOf", "(I)I"⟩ ∈ o_TT := o_inT 815 (by decide +kernel) (by decide +kernel)
theorem w_816 : Cond.code ⟨"TrapGateModel", "namesOf", "(I)I"⟩ prog_9_method_29_code 4 (some .int) ∈ o_TT := o_inT 816 (by decide +kernel) (by decide +kernel)
theorem w_817 : Cond.methodLink "TrapGateModel" 144 ⟨"TrapGateModel", "pipes", "()I"⟩ ∈ o_TT := o_inT 817 (by decide +kernel) (by decide +kernel)
theorem w_819 : Cond.instanceMethod ⟨"TrapGateModel", "pipes", "()I"⟩ ∈ o_TT := o_inT 819 (by decide +kernel) (by decide +kernel)
theorem w_820 : Cond.code ⟨"TrapGateModel", "pipes", "()I"⟩ prog_9_method_52_code 4 (some .int) ∈ o_TT := o_inT 820 (by decide +kernel) (by decide +kernel)
theorem w_821 : Cond.methodLink "TrapGateModel" 233 ⟨"TrapGateModel", "descriptors", "(I)I"⟩ ∈ o_TT := o_inT 821 (by decide +kernel) (by decide +kernel)
theorem w_822 : Cond.instanceMethod ⟨"TrapGateModel", "descriptors", "(I)I"⟩ ∈ o_TT := o_inT 822 (by decide +kernel) (by decide +kernel)
theorem w_823 : Cond.selects "TrapGateModel" ⟨"TrapGateModel", "descriptors", "(I)I"⟩ ⟨"TrapGateModel", "descriptors", "(I)I"⟩ ∈ o_TT := o_inT 823 (by decide +kernel) (by decide +kernel)
theorem w_824 : Cond.code ⟨"TrapGateModel", "descriptors", "(I)I"⟩ prog_9_method_32_code 4 (some .int) ∈ o_TT := o_inT 824 (by decide +kernel) (by decide +kernel)
theorem w_825 : Cond.methodLink "TrapGateModel" 236 ⟨"TrapGateModel", "count", "(I)I"⟩ ∈ o_TT := o_inT 825 (by decide +kernel) (by decide +kernel)
theorem w_826 : Cond.instanceMethod ⟨"TrapGateModel", "count", "(I)I"⟩ ∈ o_TT := o_inT 826 (by decide +kernel) (by decide +kernel)
theorem w_827 : Cond.selects "TrapGateModel" ⟨"TrapGateModel", "count", "(I)I"⟩ ⟨"TrapGateModel", "count", "(I)I"⟩ ∈ o_TT := o_inT 827 (by decide +kernel) (by decide +kernel)
theorem w_828 : Cond.code ⟨"TrapGateModel", "count", "(I)I"⟩ prog_9_method_31_code 5 (some .int) ∈ o_TT := o_inT 828 (by decide +kernel) (by decide +kernel)
theorem w_829 : Cond.methodLink "TrapGateModel" 147 ⟨"TrapGateModel", "list", "()I"⟩ ∈ o_TT := o_inT 829 (by decide +kernel) (by decide +kernel)
theorem w_831 : Cond.instanceMethod ⟨"TrapGateModel", "list", "()I"⟩ ∈ o_TT := o_inT 831 (by decide +kernel) (by decide +kernel)
theorem w_832 : Cond.code ⟨"TrapGateModel", "list", "()I"⟩ prog_9_method_51_code 5 (some .int) ∈ o_TT := o_inT 832 (by decide +kernel) (by decide +kernel)
theorem w_833 : Cond.methodLink "TrapGateModel" 230 ⟨"TrapGateModel", "before", "(II)Z"⟩ ∈ o_TT := o_inT 833 (by decide +kernel) (by decide +kernel)
theorem w_835 : Cond.instanceMethod ⟨"TrapGateModel", "before", "(II)Z"⟩ ∈ o_TT := o_inT 835 (by decide +kernel) (by decide +kernel)
theorem w_836 : Cond.code ⟨"TrapGateModel", "before", "(II)Z"⟩ prog_9_method_50_code 4 (some .boolean) ∈ o_TT := o_inT 836 (by decide +kernel) (by decide +kernel)
theorem w_837 : Cond.methodLink "TrapGateModel" 150 ⟨"TrapGateModel", "copy", "()I"⟩ ∈ o_TT := o_inT 837 (by decide +kernel) (by decide +kernel)
theorem w_839 : Cond.instanceMethod ⟨"TrapGateModel", "copy", "()I"⟩ ∈ o_TT := o_inT 839 (by decide +kernel) (by decide +kernel)
theorem w_840 : Cond.code ⟨"TrapGateModel", "copy", "()I"⟩ prog_9_method_53_code 3 (some .int) ∈ o_TT := o_inT 840 (by decide +kernel) (by decide +kernel)
theorem w_841 : Cond.methodLink "TrapGateModel" 153 ⟨"TrapGateModel", "protect", "()I"⟩ ∈ o_TT := o_inT 841 (by decide +kernel) (by decide +kernel)
theorem w_843 : Cond.instanceMethod ⟨"TrapGateModel", "protect", "()I"⟩ ∈ o_TT := o_inT 843 (by decide +kernel) (by decide +kernel)
theorem w_844 : Cond.code ⟨"TrapGateModel", "protect", "()I"⟩ prog_9_method_54_code 3 (some .int) ∈ o_TT := o_inT 844 (by decide +kernel) (by decide +kernel)
theorem w_845 : Cond.methodLink "TrapGateModel" 156 ⟨"TrapGateModel", "rename", "()I"⟩ ∈ o_TT := o_inT 845 (by decide +kernel) (by decide +kernel)
theorem w_847 : Cond.instanceMethod ⟨"TrapGateModel", "rename", "()I"⟩ ∈ o_TT := o_inT 847 (by decide +kernel) (by decide +kernel)
theorem w_848 : Cond.code ⟨"TrapGateModel", "rename", "()I"⟩ prog_9_method_48_code 3 (some .int) ∈ o_TT := o_inT 848 (by decide +kernel) (by decide +kernel)
theorem w_849 : Cond.methodLink "TrapGateModel" 112 ⟨"TrapGateModel", "sweep", "()V"⟩ ∈ o_TT := o_inT 849 (by decide +kernel) (by decide +kernel)
theorem w_851 : Cond.instanceMethod ⟨"TrapGateModel", "sweep", "()V"⟩ ∈ o_TT := o_inT 851 (by decide +kernel) (by decide +kernel)
theorem w_852 : Cond.code ⟨"TrapGateModel", "sweep", "()V"⟩ prog_9_method_33_code 4 none ∈ o_TT := o_inT 852 (by decide +kernel) (by decide +kernel)
theorem w_853 : Cond.methodLink "TrapGateLaw" 48 ⟨"TrapGateModel", "trap", "(II)I"⟩ ∈ o_TT := o_inT 853 (by decide +kernel) (by decide +kernel)
theorem w_854 : Cond.methodLink "TrapGateLaw" 58 ⟨"TrapGateModel", "traps", "()I"⟩ ∈ o_TT := o_inT 854 (by decide +kernel) (by decide +kernel)
theorem w_855 : Cond.instanceMethod ⟨"TrapGateModel", "traps", "()I"⟩ ∈ o_TT := o_inT 855 (by decide +kernel) (by decide +kernel)
theorem w_856 : Cond.selects "TrapGateModel" ⟨"TrapGateModel", "traps", "()I"⟩ ⟨"TrapGateModel", "traps", "()I"⟩ ∈ o_TT := o_inT 856 (by decide +kernel) (by decide +kernel)
theorem w_857 : Cond.code ⟨"TrapGateModel", "traps", "()I"⟩ prog_9_method_16_code 1 (some .int) ∈ o_TT := o_inT 857 (by decide +kernel) (by decide +kernel)
theorem w_858 : Cond.methodLink "TrapGateLaw" 63 ⟨"TrapGateModel", "count", "(I)I"⟩ ∈ o_TT := o_inT 858 (by decide +kernel) (by decide +kernel)
theorem w_859 : Cond.methodLink "TrapGateLaw" 67 ⟨"TrapGateModel", "descriptors", "(I)I"⟩ ∈ o_TT := o_inT 859 (by decide +kernel) (by decide +kernel)
theorem w_objcode : Cond.code Lib.objectInit ⟨#[0xb1]⟩ 1 none ∈ o_TT := o_inT 86 (by decide +kernel) (by decide +kernel)
theorem cl_0 : o_Cl 0 RX0 TX0 2 tyX0 := ⟨rfl, List.forall_mem_cons.mpr ⟨w_99, List.forall_mem_cons.mpr ⟨w_101, fun _ h => absurd h List.not_mem_nil⟩⟩, tyX0_ok, nmX0⟩
theorem cl_1 : o_Cl 1 RX1 TX1 3 tyX1 := ⟨rfl, List.forall_mem_cons.mpr ⟨w_117, List.forall_mem_cons.mpr ⟨w_119, List.forall_mem_cons.mpr ⟨w_121, fun _ h => absurd h List.not_mem_nil⟩⟩⟩, tyX1_ok, nmX1⟩
theorem cl_2 : o_Cl 2 RX2 TX2 5 tyX2 := ⟨rfl, List.forall_mem_cons.mpr ⟨w_139, List.forall_mem_cons.mpr ⟨w_141, List.forall_mem_cons.mpr ⟨w_143, List.forall_mem_cons.mpr ⟨w_145, List.forall_mem_cons.mpr ⟨w_147, fun _ h => absurd h List.not_mem_nil⟩⟩⟩⟩⟩, tyX2_ok, nmX2⟩
theorem cl_3 : o_Cl 3 RX3 TX3 2 tyX3 := ⟨rfl, List.forall_mem_cons.mpr ⟨w_191, List.forall_mem_cons.mpr ⟨w_193, fun _ h => absurd h List.not_mem_nil⟩⟩, tyX3_ok, nmX3⟩
theorem cl_4 : o_Cl 4 RX4 TX4 3 tyX4 := ⟨rfl, List.forall_mem_cons.mpr ⟨w_163, List.forall_mem_cons.mpr ⟨w_165, List.forall_mem_cons.mpr ⟨w_167, fun _ h => absurd h List.not_mem_nil⟩⟩⟩, tyX4_ok, nmX4⟩
theorem cl_5 : o_Cl 5 RX5 TX5 2 tyX5 := ⟨rfl, List.forall_mem_cons.mpr ⟨w_178, List.forall_mem_cons.mpr ⟨w_180, fun _ h => absurd h List.not_mem_nil⟩⟩, tyX5_ok, nmX5⟩
theorem cl_6 : o_Cl 6 RX6 TX6 9 tyX6 := ⟨rfl, List.forall_mem_cons.mpr ⟨w_205, List.forall_mem_cons.mpr ⟨w_207, List.forall_mem_cons.mpr ⟨w_209, List.forall_mem_cons.mpr ⟨w_211, List.forall_mem_cons.mpr ⟨w_213, List.forall_mem_cons.mpr ⟨w_215, List.forall_mem_cons.mpr ⟨w_217, List.forall_mem_cons.mpr ⟨w_219, List.forall_mem_cons.mpr ⟨w_221, fun _ h => absurd h List.not_mem_nil⟩⟩⟩⟩⟩⟩⟩⟩⟩, tyX6_ok, nmX6⟩
theorem cl_7 : o_Cl 7 RX7 TX7 28 tyX7 := ⟨rfl, List.forall_mem_cons.mpr ⟨w_590, List.forall_mem_cons.mpr ⟨w_592, List.forall_mem_cons.mpr ⟨w_594, List.forall_mem_cons.mpr ⟨w_596, List.forall_mem_cons.mpr ⟨w_598, List.forall_mem_cons.mpr ⟨w_600, List.forall_mem_cons.mpr ⟨w_602, List.forall_mem_cons.mpr ⟨w_604, List.forall_mem_cons.mpr ⟨w_606, List.forall_mem_cons.mpr ⟨w_608, List.forall_mem_cons.mpr ⟨w_610, List.forall_mem_cons.mpr ⟨w_612, List.forall_mem_cons.mpr ⟨w_614, List.forall_mem_cons.mpr ⟨w_616, List.forall_mem_cons.mpr ⟨w_618, List.forall_mem_cons.mpr ⟨w_620, List.forall_mem_cons.mpr ⟨w_622, List.forall_mem_cons.mpr ⟨w_624, List.forall_mem_cons.mpr ⟨w_626, List.forall_mem_cons.mpr ⟨w_628, List.forall_mem_cons.mpr ⟨w_630, List.forall_mem_cons.mpr ⟨w_632, List.forall_mem_cons.mpr ⟨w_634, List.forall_mem_cons.mpr ⟨w_636, List.forall_mem_cons.mpr ⟨w_638, List.forall_mem_cons.mpr ⟨w_640, List.forall_mem_cons.mpr ⟨w_642, List.forall_mem_cons.mpr ⟨w_644, fun _ h => absurd h List.not_mem_nil⟩⟩⟩⟩⟩⟩⟩⟩⟩⟩⟩⟩⟩⟩⟩⟩⟩⟩⟩⟩⟩⟩⟩⟩⟩⟩⟩⟩, tyX7_ok, nmX7⟩
abbrev m_A_fill : oM := (⟨"java/util/Arrays", "fill", "([II)V"⟩, prog_11_method_103_code, 4, none, 0, 0)
theorem f_A_fill : o_Mf m_A_fill 2 := ⟨w_95, w_71, by decide +kernel⟩
abbrev m_M_init : oM := (⟨"TrapGate$Memory", "<init>", "()V"⟩, prog_2_method_1_code, 1, none, 1, 23)
theorem f_M_init : o_Mf m_M_init 0 := ⟨w_91, w_70, by decide +kernel⟩
abbrev m_N_init : oM := (⟨"TrapGate$Names", "<init>", "()V"⟩, prog_3_method_1_code, 1, none, 1, 20)
theorem f_N_init : o_Mf m_N_init 0 := ⟨w_109, w_72, by decide +kernel⟩
abbrev m_O_init : oM := (⟨"TrapGate$Opens", "<init>", "()V"⟩, prog_4_method_1_code, 1, none, 1, 23)
theorem f_O_init : o_Mf m_O_init 0 := ⟨w_129, w_73, by decide +kernel⟩
abbrev m_R_init : oM := (⟨"TrapGate$Ranges", "<init>", "()V"⟩, prog_6_method_1_code, 1, none, 1, 20)
theorem f_R_init : o_Mf m_R_init 0 := ⟨w_158, w_74, by decide +kernel⟩
abbrev m_F_init : oM := (⟨"TrapGate$StoredFile", "<init>", "()V"⟩, prog_7_method_1_code, 1, none, 1, 20)
theorem f_F_init : o_Mf m_F_init 0 := ⟨w_173, w_75, by decide +kernel⟩
abbrev m_P_init : oM := (⟨"TrapGate$Pipe", "<init>", "()V"⟩, prog_5_method_1_code, 1, none, 1, 20)
theorem f_P_init : o_Mf m_P_init 0 := ⟨w_186, w_76, by decide +kernel⟩
abbrev m_T_init : oM := (⟨"TrapGate", "<init>", "()V"⟩, prog_1_method_1_code, 2, none, 2, 43)
theorem f_T_init : o_Mf m_T_init 0 := ⟨w_83, w_69, by decide +kernel⟩
abbrev m_X_init : oM := (⟨"TrapGateModel", "<init>", "()V"⟩, prog_9_method_1_code, 1, none, 1, 20)
theorem f_X_init : o_Mf m_X_init 0 := ⟨w_560, w_77, by decide +kernel⟩
abbrev m_T_isWithin : oM := (⟨"TrapGate", "isWithin", "(II)Z"⟩, prog_1_method_14_code, 2, (some .boolean), 0, 0)
theorem f_T_isWithin : o_Mf m_T_isWithin 2 := ⟨w_233, w_69, by decide +kernel⟩
abbrev m_T_isProcess : oM := (⟨"TrapGate", "isProcess", "(I)Z"⟩, prog_1_method_15_code, 1, (some .boolean), 1, 21)
theorem f_T_isProcess : o_Mf m_T_isProcess 1 := ⟨w_230, w_69, by decide +kernel⟩
abbrev m_M_setEntry : oM := (⟨"TrapGate$Memory", "setEntry", "(III)V"⟩, prog_2_method_3_code, 4, none, 0, 0)
theorem f_M_setEntry : o_Mf m_M_setEntry 3 := ⟨w_237, w_70, by decide +kernel⟩
abbrev m_T_map : oM := (⟨"TrapGate", "map", "(IIII)Z"⟩, prog_1_method_2_code, 5, (some .boolean), 2, 41)
theorem f_T_map : o_Mf m_T_map 4 := ⟨w_227, w_69, by decide +kernel⟩
abbrev m_X_isProcess : oM := (⟨"TrapGateModel", "isProcess", "(I)Z"⟩, prog_9_method_2_code, 1, (some .boolean), 0, 0)
theorem f_X_isProcess : o_Mf m_X_isProcess 1 := ⟨w_657, w_77, by decide +kernel⟩
abbrev m_X_isPage : oM := (⟨"TrapGateModel", "isPage", "(II)Z"⟩, prog_9_method_3_code, 2, (some .boolean), 1, 20)
theorem f_X_isPage : o_Mf m_X_isPage 2 := ⟨w_654, w_77, by decide +kernel⟩
abbrev m_X_map : oM := (⟨"TrapGateModel", "map", "(IIII)Z"⟩, prog_9_method_4_code, 5, (some .boolean), 2, 41)
theorem f_X_map : o_Mf m_X_map 4 := ⟨w_651, w_77, by decide +kernel⟩
abbrev m_M_entry : oM := (⟨"TrapGate$Memory", "entry", "(II)I"⟩, prog_2_method_2_code, 3, (some .int), 0, 0)
theorem f_M_entry : o_Mf m_M_entry 2 := ⟨w_249, w_70, by decide +kernel⟩
abbrev m_T_page : oM := (⟨"TrapGate", "page", "(II)I"⟩, prog_1_method_4_code, 3, (some .int), 2, 41)
theorem f_T_page : o_Mf m_T_page 2 := ⟨w_245, w_69, by decide +kernel⟩
abbrev m_T_unmap : oM := (⟨"TrapGate", "unmap", "(II)Z"⟩, prog_1_method_3_code, 3, (some .boolean), 3, 63)
theorem f_T_unmap : o_Mf m_T_unmap 2 := ⟨w_241, w_69, by decide +kernel⟩
abbrev m_X_unmap : oM := (⟨"TrapGateModel", "unmap", "(II)Z"⟩, prog_9_method_5_code, 3, (some .boolean), 2, 41)
theorem f_X_unmap : o_Mf m_X_unmap 2 := ⟨w_661, w_77, by decide +kernel⟩
abbrev m_X_page : oM := (⟨"TrapGateModel", "page", "(II)I"⟩, prog_9_method_6_code, 3, (some .int), 2, 41)
theorem f_X_page : o_Mf m_X_page 2 := ⟨w_665, w_77, by decide +kernel⟩
abbrev m_T_poke : oM := (⟨"TrapGate", "poke", "(III)Z"⟩, prog_1_method_5_code, 4, (some .boolean), 1, 21)
theorem f_T_poke : o_Mf m_T_poke 3 := ⟨w_254, w_69, by decide +kernel⟩
abbrev m_X_isByte : oM := (⟨"TrapGateModel", "isByte", "(II)Z"⟩, prog_9_method_7_code, 2, (some .boolean), 0, 0)
theorem f_X_isByte : o_Mf m_X_isByte 2 := ⟨w_672, w_77, by decide +kernel⟩
abbrev m_X_poke : oM := (⟨"TrapGateModel", "poke", "(III)Z"⟩, prog_9_method_8_code, 4, (some .boolean), 1, 21)
theorem f_X_poke : o_Mf m_X_poke 3 := ⟨w_669, w_77, by decide +kernel⟩
abbrev m_T_peek : oM := (⟨"TrapGate", "peek", "(II)I"⟩, prog_1_method_6_code, 3, (some .int), 1, 21)
theorem f_T_peek : o_Mf m_T_peek 2 := ⟨w_258, w_69, by decide +kernel⟩
abbrev m_X_peek : oM := (⟨"TrapGateModel", "peek", "(II)I"⟩, prog_9_method_9_code, 3, (some .int), 1, 21)
theorem f_X_peek : o_Mf m_X_peek 2 := ⟨w_676, w_77, by decide +kernel⟩
abbrev m_T_set : oM := (⟨"TrapGate", "set", "(III)Z"⟩, prog_1_method_7_code, 4, (some .boolean), 2, 41)
theorem f_T_set : o_Mf m_T_set 3 := ⟨w_262, w_69, by decide +kernel⟩
abbrev m_X_set : oM := (⟨"TrapGateModel", "set", "(III)Z"⟩, prog_9_method_10_code, 4, (some .boolean), 1, 20)
theorem f_X_set : o_Mf m_X_set 3 := ⟨w_680, w_77, by decide +kernel⟩
abbrev m_T_register : oM := (⟨"TrapGate", "register", "(II)I"⟩, prog_1_method_8_code, 3, (some .int), 2, 41)
theorem f_T_register : o_Mf m_T_register 2 := ⟨w_266, w_69, by decide +kernel⟩
abbrev m_X_register : oM := (⟨"TrapGateModel", "register", "(II)I"⟩, prog_9_method_11_code, 3, (some .int), 1, 20)
theorem f_X_register : o_Mf m_X_register 2 := ⟨w_684, w_77, by decide +kernel⟩
abbrev m_T_isOpenMode : oM := (⟨"TrapGate", "isOpenMode", "(I)Z"⟩, prog_1_method_18_code, 1, (some .boolean), 0, 0)
theorem f_T_isOpenMode : o_Mf m_T_isOpenMode 1 := ⟨w_281, w_69, by decide +kernel⟩
abbrev m_M_allows : oM := (⟨"TrapGate$Memory", "allows", "(IIII)Z"⟩, prog_2_method_4_code, 9, (some .boolean), 1, 22)
theorem f_M_allows : o_Mf m_M_allows 4 := ⟨w_289, w_70, by decide +kernel⟩
abbrev m_M_load : oM := (⟨"TrapGate$Memory", "load", "(II)I"⟩, prog_2_method_5_code, 4, (some .int), 0, 0)
theorem f_M_load : o_Mf m_M_load 2 := ⟨w_295, w_70, by decide +kernel⟩
abbrev m_M_textAt : oM := (⟨"TrapGate$Memory", "textAt", "(II)J"⟩, prog_2_method_7_code, 7, (some .long), 2, 50)
theorem f_M_textAt : o_Mf m_M_textAt 2 := ⟨w_285, w_70, by decide +kernel⟩
abbrev m_N_find : oM := (⟨"TrapGate$Names", "find", "(J)I"⟩, prog_3_method_5_code, 4, (some .int), 0, 0)
theorem f_N_find : o_Mf m_N_find 1 := ⟨w_300, w_72, by decide +kernel⟩
abbrev m_O_leastClosed : oM := (⟨"TrapGate$Opens", "leastClosed", "(II)I"⟩, prog_4_method_6_code, 4, (some .int), 0, 0)
theorem f_O_leastClosed : o_Mf m_O_leastClosed 2 := ⟨w_304, w_73, by decide +kernel⟩
abbrev m_O_leastFree : oM := (⟨"TrapGate$Opens", "leastFree", "(I)I"⟩, prog_4_method_8_code, 3, (some .int), 0, 0)
theorem f_O_leastFree : o_Mf m_O_leastFree 1 := ⟨w_308, w_73, by decide +kernel⟩
abbrev m_N_countOf : oM := (⟨"TrapGate$Names", "countOf", "(I)I"⟩, prog_3_method_6_code, 4, (some .int), 0, 0)
theorem f_N_countOf : o_Mf m_N_countOf 1 := ⟨w_320, w_72, by decide +kernel⟩
abbrev m_O_countOf : oM := (⟨"TrapGate$Opens", "countOf", "(II)I"⟩, prog_4_method_10_code, 5, (some .int), 0, 0)
theorem f_O_countOf : o_Mf m_O_countOf 2 := ⟨w_324, w_73, by decide +kernel⟩
abbrev m_T_isFileThere : oM := (⟨"TrapGate", "isFileThere", "(I)Z"⟩, prog_1_method_42_code, 2, (some .boolean), 1, 24)
theorem f_T_isFileThere : o_Mf m_T_isFileThere 1 := ⟨w_316, w_69, by decide +kernel⟩
abbrev m_T_leastFreeFile : oM := (⟨"TrapGate", "leastFreeFile", "()I"⟩, prog_1_method_46_code, 2, (some .int), 2, 45)
theorem f_T_leastFreeFile : o_Mf m_T_leastFreeFile 0 := ⟨w_312, w_69, by decide +kernel⟩
abbrev m_N_isFull : oM := (⟨"TrapGate$Names", "isFull", "()Z"⟩, prog_3_method_4_code, 1, (some .boolean), 0, 0)
theorem f_N_isFull : o_Mf m_N_isFull 0 := ⟨w_328, w_72, by decide +kernel⟩
abbrev m_N_add : oM := (⟨"TrapGate$Names", "add", "(JI)V"⟩, prog_3_method_7_code, 5, none, 0, 0)
theorem f_N_add : o_Mf m_N_add 2 := ⟨w_332, w_72, by decide +kernel⟩
abbrev m_O_make : oM := (⟨"TrapGate$Opens", "make", "(III)V"⟩, prog_4_method_11_code, 4, none, 0, 0)
theorem f_O_make : o_Mf m_O_make 3 := ⟨w_336, w_73, by decide +kernel⟩
abbrev m_O_attach : oM := (⟨"TrapGate$Opens", "attach", "(III)V"⟩, prog_4_method_12_code, 4, none, 0, 0)
theorem f_O_attach : o_Mf m_O_attach 3 := ⟨w_340, w_73, by decide +kernel⟩
abbrev m_T_open : oM := (⟨"TrapGate", "open", "(III)I"⟩, prog_1_method_17_code, 10, (some .int), 3, 76)
theorem f_T_open : o_Mf m_T_open 3 := ⟨w_278, w_69, by decide +kernel⟩
abbrev m_O_at : oM := (⟨"TrapGate$Opens", "at", "(II)I"⟩, prog_4_method_2_code, 3, (some .int), 1, 21)
theorem f_O_at : o_Mf m_O_at 2 := ⟨w_348, w_73, by decide +kernel⟩
abbrev m_O_detach : oM := (⟨"TrapGate$Opens", "detach", "(II)V"⟩, prog_4_method_13_code, 3, none, 0, 0)
theorem f_O_detach : o_Mf m_O_detach 2 := ⟨w_353, w_73, by decide +kernel⟩
abbrev m_T_close : oM := (⟨"TrapGate", "close", "(II)I"⟩, prog_1_method_19_code, 3, (some .int), 2, 43)
theorem f_T_close : o_Mf m_T_close 2 := ⟨w_344, w_69, by decide +kernel⟩
abbrev m_O_isFor : oM := (⟨"TrapGate$Opens", "isFor", "(II)Z"⟩, prog_4_method_3_code, 3, (some .boolean), 0, 0)
theorem f_O_isFor : o_Mf m_O_isFor 2 := ⟨w_361, w_73, by decide +kernel⟩
abbrev m_T_flagFor : oM := (⟨"TrapGate", "flagFor", "(I)I"⟩, prog_1_method_24_code, 1, (some .int), 0, 0)
theorem f_T_flagFor : o_Mf m_T_flagFor 1 := ⟨w_364, w_69, by decide +kernel⟩
abbrev m_R_clear : oM := (⟨"TrapGate$Ranges", "clear", "()V"⟩, prog_6_method_2_code, 1, none, 0, 0)
theorem f_R_clear : o_Mf m_R_clear 0 := ⟨w_373, w_74, by decide +kernel⟩
abbrev m_R_add : oM := (⟨"TrapGate$Ranges", "add", "(II)V"⟩, prog_6_method_3_code, 3, none, 0, 0)
theorem f_R_add : o_Mf m_R_add 2 := ⟨w_377, w_74, by decide +kernel⟩
abbrev m_R_setOnly : oM := (⟨"TrapGate$Ranges", "setOnly", "(II)V"⟩, prog_6_method_4_code, 3, none, 1, 22)
theorem f_R_setOnly : o_Mf m_R_setOnly 2 := ⟨w_369, w_74, by decide +kernel⟩
abbrev m_R_total : oM := (⟨"TrapGate$Ranges", "total", "()I"⟩, prog_6_method_5_code, 3, (some .int), 0, 0)
theorem f_R_total : o_Mf m_R_total 0 := ⟨w_385, w_74, by decide +kernel⟩
abbrev m_O_isOfPipe : oM := (⟨"TrapGate$Opens", "isOfPipe", "(I)Z"⟩, prog_4_method_4_code, 2, (some .boolean), 0, 0)
theorem f_O_isOfPipe : o_Mf m_O_isOfPipe 1 := ⟨w_389, w_73, by decide +kernel⟩
abbrev m_O_pipeOf : oM := (⟨"TrapGate$Opens", "pipeOf", "(I)I"⟩, prog_4_method_5_code, 2, (some .int), 0, 0)
theorem f_O_pipeOf : o_Mf m_O_pipeOf 1 := ⟨w_393, w_73, by decide +kernel⟩
abbrev m_J_min : oM := (⟨"java/lang/Math", "min", "(II)I"⟩, prog_10_method_69_code, 2, (some .int), 0, 0)
theorem f_J_min : o_Mf m_J_min 2 := ⟨w_400, w_78, by decide +kernel⟩
abbrev m_P_takeOut : oM := (⟨"TrapGate$Pipe", "takeOut", "([II)V"⟩, prog_5_method_2_code, 4, none, 0, 0)
theorem f_P_takeOut : o_Mf m_P_takeOut 2 := ⟨w_404, w_76, by decide +kernel⟩
abbrev m_T_takeFromPipe : oM := (⟨"TrapGate", "takeFromPipe", "(II)I"⟩, prog_1_method_28_code, 5, (some .int), 1, 24)
theorem f_T_takeFromPipe : o_Mf m_T_takeFromPipe 2 := ⟨w_397, w_69, by decide +kernel⟩
abbrev m_J_max : oM := (⟨"java/lang/Math", "max", "(II)I"⟩, prog_10_method_65_code, 2, (some .int), 0, 0)
theorem f_J_max : o_Mf m_J_max 2 := ⟨w_411, w_78, by decide +kernel⟩
abbrev m_F_copyOut : oM := (⟨"TrapGate$StoredFile", "copyOut", "(I[II)V"⟩, prog_7_method_2_code, 5, none, 0, 0)
theorem f_F_copyOut : o_Mf m_F_copyOut 3 := ⟨w_415, w_75, by decide +kernel⟩
abbrev m_T_takeFromFile : oM := (⟨"TrapGate", "takeFromFile", "(II)I"⟩, prog_1_method_27_code, 6, (some .int), 1, 24)
theorem f_T_takeFromFile : o_Mf m_T_takeFromFile 2 := ⟨w_408, w_69, by decide +kernel⟩
abbrev m_R_addressOf : oM := (⟨"TrapGate$Ranges", "addressOf", "(I)I"⟩, prog_6_method_6_code, 4, (some .int), 0, 0)
theorem f_R_addressOf : o_Mf m_R_addressOf 1 := ⟨w_423, w_74, by decide +kernel⟩
abbrev m_M_store : oM := (⟨"TrapGate$Memory", "store", "(III)V"⟩, prog_2_method_6_code, 5, none, 0, 0)
theorem f_M_store : o_Mf m_M_store 3 := ⟨w_427, w_70, by decide +kernel⟩
abbrev m_T_scatter : oM := (⟨"TrapGate", "scatter", "(II)V"⟩, prog_1_method_32_code, 4, none, 1, 24)
theorem f_T_scatter : o_Mf m_T_scatter 2 := ⟨w_419, w_69, by decide +kernel⟩
abbrev m_T_readOpen : oM := (⟨"TrapGate", "readOpen", "(II)I"⟩, prog_1_method_26_code, 5, (some .int), 2, 49)
theorem f_T_readOpen : o_Mf m_T_readOpen 2 := ⟨w_381, w_69, by decide +kernel⟩
abbrev m_T_gather : oM := (⟨"TrapGate", "gather", "(II)V"⟩, prog_1_method_33_code, 4, none, 1, 23)
theorem f_T_gather : o_Mf m_T_gather 2 := ⟨w_435, w_69, by decide +kernel⟩
abbrev m_P_putIn : oM := (⟨"TrapGate$Pipe", "putIn", "([II)V"⟩, prog_5_method_3_code, 4, none, 0, 0)
theorem f_P_putIn : o_Mf m_P_putIn 2 := ⟨w_444, w_76, by decide +kernel⟩
abbrev m_T_putInPipe : oM := (⟨"TrapGate", "putInPipe", "(II)I"⟩, prog_1_method_31_code, 5, (some .int), 1, 24)
theorem f_T_putInPipe : o_Mf m_T_putInPipe 2 := ⟨w_440, w_69, by decide +kernel⟩
abbrev m_F_putIn : oM := (⟨"TrapGate$StoredFile", "putIn", "(I[II)V"⟩, prog_7_method_3_code, 5, none, 1, 21)
theorem f_F_putIn : o_Mf m_F_putIn 3 := ⟨w_452, w_75, by decide +kernel⟩
abbrev m_T_putInFile : oM := (⟨"TrapGate", "putInFile", "(II)I"⟩, prog_1_method_30_code, 5, (some .int), 2, 45)
theorem f_T_putInFile : o_Mf m_T_putInFile 2 := ⟨w_448, w_69, by decide +kernel⟩
abbrev m_T_writeOpen : oM := (⟨"TrapGate", "writeOpen", "(II)I"⟩, prog_1_method_29_code, 5, (some .int), 3, 69)
theorem f_T_writeOpen : o_Mf m_T_writeOpen 2 := ⟨w_431, w_69, by decide +kernel⟩
abbrev m_T_transfer : oM := (⟨"TrapGate", "transfer", "(IIIII)I"⟩, prog_1_method_22_code, 7, (some .int), 4, 93)
theorem f_T_transfer : o_Mf m_T_transfer 5 := ⟨w_357, w_69, by decide +kernel⟩
abbrev m_T_seek : oM := (⟨"TrapGate", "seek", "(III)I"⟩, prog_1_method_21_code, 5, (some .int), 2, 43)
theorem f_T_seek : o_Mf m_T_seek 3 := ⟨w_457, w_69, by decide +kernel⟩
abbrev m_T_duplicate : oM := (⟨"TrapGate", "duplicate", "(II)I"⟩, prog_1_method_20_code, 5, (some .int), 2, 43)
theorem f_T_duplicate : o_Mf m_T_duplicate 2 := ⟨w_461, w_69, by decide +kernel⟩
abbrev m_N_remove : oM := (⟨"TrapGate$Names", "remove", "(I)V"⟩, prog_3_method_8_code, 3, none, 0, 0)
theorem f_N_remove : o_Mf m_N_remove 1 := ⟨w_469, w_72, by decide +kernel⟩
abbrev m_T_unlink : oM := (⟨"TrapGate", "unlink", "(II)I"⟩, prog_1_method_34_code, 6, (some .int), 3, 76)
theorem f_T_unlink : o_Mf m_T_unlink 2 := ⟨w_465, w_69, by decide +kernel⟩
abbrev m_T_link : oM := (⟨"TrapGate", "link", "(III)I"⟩, prog_1_method_35_code, 9, (some .int), 3, 76)
theorem f_T_link : o_Mf m_T_link 3 := ⟨w_473, w_69, by decide +kernel⟩
abbrev m_T_stat : oM := (⟨"TrapGate", "stat", "(III)I"⟩, prog_1_method_37_code, 8, (some .int), 3, 76)
theorem f_T_stat : o_Mf m_T_stat 3 := ⟨w_477, w_69, by decide +kernel⟩
abbrev m_T_isPipeThere : oM := (⟨"TrapGate", "isPipeThere", "(I)Z"⟩, prog_1_method_43_code, 2, (some .boolean), 1, 24)
theorem f_T_isPipeThere : o_Mf m_T_isPipeThere 1 := ⟨w_489, w_69, by decide +kernel⟩
abbrev m_T_leastFreePipe : oM := (⟨"TrapGate", "leastFreePipe", "()I"⟩, prog_1_method_47_code, 2, (some .int), 2, 45)
theorem f_T_leastFreePipe : o_Mf m_T_leastFreePipe 0 := ⟨w_485, w_69, by decide +kernel⟩
abbrev m_T_makePipe : oM := (⟨"TrapGate", "makePipe", "(II)I"⟩, prog_1_method_38_code, 8, (some .int), 3, 66)
theorem f_T_makePipe : o_Mf m_T_makePipe 2 := ⟨w_481, w_69, by decide +kernel⟩
abbrev m_N_byteOf : oM := (⟨"TrapGate$Names", "byteOf", "(JI)I"⟩, prog_3_method_2_code, 3, (some .int), 0, 0)
theorem f_N_byteOf : o_Mf m_N_byteOf 2 := ⟨w_499, w_72, by decide +kernel⟩
abbrev m_N_lengthOf : oM := (⟨"TrapGate$Names", "lengthOf", "(J)I"⟩, prog_3_method_3_code, 3, (some .int), 1, 22)
theorem f_N_lengthOf : o_Mf m_N_lengthOf 1 := ⟨w_496, w_72, by decide +kernel⟩
abbrev m_T_list : oM := (⟨"TrapGate", "list", "(III)I"⟩, prog_1_method_39_code, 8, (some .int), 2, 50)
theorem f_T_list : o_Mf m_T_list 3 := ⟨w_493, w_69, by decide +kernel⟩
abbrev m_T_copy : oM := (⟨"TrapGate", "copy", "(IIII)I"⟩, prog_1_method_40_code, 5, (some .int), 2, 50)
theorem f_T_copy : o_Mf m_T_copy 4 := ⟨w_504, w_69, by decide +kernel⟩
abbrev m_T_protect : oM := (⟨"TrapGate", "protect", "(III)I"⟩, prog_1_method_41_code, 6, (some .int), 1, 23)
theorem f_T_protect : o_Mf m_T_protect 3 := ⟨w_508, w_69, by decide +kernel⟩
abbrev m_T_takeRanges : oM := (⟨"TrapGate", "takeRanges", "(IIII)Z"⟩, prog_1_method_25_code, 8, (some .boolean), 2, 50)
theorem f_T_takeRanges : o_Mf m_T_takeRanges 4 := ⟨w_516, w_69, by decide +kernel⟩
abbrev m_T_transferRanges : oM := (⟨"TrapGate", "transferRanges", "(IIIII)I"⟩, prog_1_method_23_code, 7, (some .int), 4, 93)
theorem f_T_transferRanges : o_Mf m_T_transferRanges 5 := ⟨w_512, w_69, by decide +kernel⟩
abbrev m_T_rename : oM := (⟨"TrapGate", "rename", "(III)I"⟩, prog_1_method_36_code, 11, (some .int), 3, 76)
theorem f_T_rename : o_Mf m_T_rename 3 := ⟨w_522, w_69, by decide +kernel⟩
abbrev m_T_serve : oM := (⟨"TrapGate", "serve", "(II)I"⟩, prog_1_method_16_code, 6, (some .int), 5, 119)
theorem f_T_serve : o_Mf m_T_serve 2 := ⟨w_274, w_69, by decide +kernel⟩
abbrev m_T_trap : oM := (⟨"TrapGate", "trap", "(II)I"⟩, prog_1_method_9_code, 4, (some .int), 6, 144)
theorem f_T_trap : o_Mf m_T_trap 2 := ⟨w_270, w_69, by decide +kernel⟩
abbrev m_X_place : oM := (⟨"TrapGateModel", "place", "(II)I"⟩, prog_9_method_17_code, 4, (some .int), 0, 0)
theorem f_X_place : o_Mf m_X_place 2 := ⟨w_708, w_77, by decide +kernel⟩
abbrev m_X_string : oM := (⟨"TrapGateModel", "string", "(II)Z"⟩, prog_9_method_20_code, 5, (some .boolean), 1, 23)
theorem f_X_string : o_Mf m_X_string 2 := ⟨w_704, w_77, by decide +kernel⟩
abbrev m_X_isName : oM := (⟨"TrapGateModel", "isName", "(II)Z"⟩, prog_9_method_21_code, 5, (some .boolean), 0, 0)
theorem f_X_isName : o_Mf m_X_isName 2 := ⟨w_716, w_77, by decide +kernel⟩
abbrev m_X_name : oM := (⟨"TrapGateModel", "name", "(I)I"⟩, prog_9_method_22_code, 3, (some .int), 1, 24)
theorem f_X_name : o_Mf m_X_name 1 := ⟨w_712, w_77, by decide +kernel⟩
abbrev m_X_freeDescriptor : oM := (⟨"TrapGateModel", "freeDescriptor", "()I"⟩, prog_9_method_27_code, 2, (some .int), 0, 0)
theorem f_X_freeDescriptor : o_Mf m_X_freeDescriptor 0 := ⟨w_720, w_77, by decide +kernel⟩
abbrev m_X_freeOpen : oM := (⟨"TrapGateModel", "freeOpen", "()I"⟩, prog_9_method_26_code, 2, (some .int), 0, 0)
theorem f_X_freeOpen : o_Mf m_X_freeOpen 0 := ⟨w_724, w_77, by decide +kernel⟩
abbrev m_X_freeFile : oM := (⟨"TrapGateModel", "freeFile", "()I"⟩, prog_9_method_25_code, 2, (some .int), 0, 0)
theorem f_X_freeFile : o_Mf m_X_freeFile 0 := ⟨w_728, w_77, by decide +kernel⟩
abbrev m_X_freeName : oM := (⟨"TrapGateModel", "freeName", "()I"⟩, prog_9_method_24_code, 2, (some .int), 0, 0)
theorem f_X_freeName : o_Mf m_X_freeName 0 := ⟨w_732, w_77, by decide +kernel⟩
abbrev m_X_give : oM := (⟨"TrapGateModel", "give", "(III)V"⟩, prog_9_method_23_code, 5, none, 0, 0)
theorem f_X_give : o_Mf m_X_give 3 := ⟨w_736, w_77, by decide +kernel⟩
abbrev m_X_newOpen : oM := (⟨"TrapGateModel", "newOpen", "(IIII)I"⟩, prog_9_method_34_code, 6, (some .int), 1, 21)
theorem f_X_newOpen : o_Mf m_X_newOpen 4 := ⟨w_740, w_77, by decide +kernel⟩
abbrev m_X_open : oM := (⟨"TrapGateModel", "open", "()I"⟩, prog_9_method_35_code, 4, (some .int), 2, 47)
theorem f_X_open : o_Mf m_X_open 0 := ⟨w_700, w_77, by decide +kernel⟩
abbrev m_X_opened : oM := (⟨"TrapGateModel", "opened", "()I"⟩, prog_9_method_28_code, 1, (some .int), 0, 0)
theorem f_X_opened : o_Mf m_X_opened 0 := ⟨w_748, w_77, by decide +kernel⟩
abbrev m_X_close : oM := (⟨"TrapGateModel", "close", "()I"⟩, prog_9_method_36_code, 1, (some .int), 1, 20)
theorem f_X_close : o_Mf m_X_close 0 := ⟨w_744, w_77, by decide +kernel⟩
abbrev m_X_range : oM := (⟨"TrapGateModel", "range", "(III)Z"⟩, prog_9_method_18_code, 7, (some .boolean), 1, 23)
theorem f_X_range : o_Mf m_X_range 3 := ⟨w_760, w_77, by decide +kernel⟩
abbrev m_X_take : oM := (⟨"TrapGateModel", "take", "()V"⟩, prog_9_method_19_code, 2, none, 0, 0)
theorem f_X_take : o_Mf m_X_take 0 := ⟨w_764, w_77, by decide +kernel⟩
abbrev m_X_gather : oM := (⟨"TrapGateModel", "gather", "(ZZ)Z"⟩, prog_9_method_39_code, 6, (some .boolean), 2, 49)
theorem f_X_gather : o_Mf m_X_gather 2 := ⟨w_756, w_77, by decide +kernel⟩
abbrev m_X_toFile : oM := (⟨"TrapGateModel", "toFile", "(I)I"⟩, prog_9_method_42_code, 4, (some .int), 0, 0)
theorem f_X_toFile : o_Mf m_X_toFile 1 := ⟨w_768, w_77, by decide +kernel⟩
abbrev m_X_opensOf : oM := (⟨"TrapGateModel", "opensOf", "(II)I"⟩, prog_9_method_30_code, 5, (some .int), 0, 0)
theorem f_X_opensOf : o_Mf m_X_opensOf 2 := ⟨w_776, w_77, by decide +kernel⟩
abbrev m_X_toPipe : oM := (⟨"TrapGateModel", "toPipe", "(I)I"⟩, prog_9_method_44_code, 3, (some .int), 1, 24)
theorem f_X_toPipe : o_Mf m_X_toPipe 1 := ⟨w_772, w_77, by decide +kernel⟩
abbrev m_X_fromFile : oM := (⟨"TrapGateModel", "fromFile", "(I)I"⟩, prog_9_method_41_code, 4, (some .int), 0, 0)
theorem f_X_fromFile : o_Mf m_X_fromFile 1 := ⟨w_780, w_77, by decide +kernel⟩
abbrev m_X_fromPipe : oM := (⟨"TrapGateModel", "fromPipe", "(I)I"⟩, prog_9_method_43_code, 4, (some .int), 1, 24)
theorem f_X_fromPipe : o_Mf m_X_fromPipe 1 := ⟨w_784, w_77, by decide +kernel⟩
abbrev m_X_transfer : oM := (⟨"TrapGateModel", "transfer", "(ZZ)I"⟩, prog_9_method_40_code, 4, (some .int), 3, 74)
theorem f_X_transfer : o_Mf m_X_transfer 2 := ⟨w_752, w_77, by decide +kernel⟩
abbrev m_X_seek : oM := (⟨"TrapGateModel", "seek", "()I"⟩, prog_9_method_38_code, 2, (some .int), 1, 20)
theorem f_X_seek : o_Mf m_X_seek 0 := ⟨w_788, w_77, by decide +kernel⟩
abbrev m_X_dup : oM := (⟨"TrapGateModel", "dup", "()I"⟩, prog_9_method_37_code, 3, (some .int), 1, 21)
theorem f_X_dup : o_Mf m_X_dup 0 := ⟨w_792, w_77, by decide +kernel⟩
abbrev m_X_unlink : oM := (⟨"TrapGateModel", "unlink", "()I"⟩, prog_9_method_45_code, 2, (some .int), 2, 47)
theorem f_X_unlink : o_Mf m_X_unlink 0 := ⟨w_796, w_77, by decide +kernel⟩
abbrev m_X_first : oM := (⟨"TrapGateModel", "first", "(I)I"⟩, prog_9_method_14_code, 2, (some .int), 4, 97)
theorem f_X_first : o_Mf m_X_first 1 := ⟨w_696, w_77, by decide +kernel⟩
abbrev m_X_strings : oM := (⟨"TrapGateModel", "strings", "()Z"⟩, prog_9_method_46_code, 1, (some .boolean), 2, 47)
theorem f_X_strings : o_Mf m_X_strings 0 := ⟨w_808, w_77, by decide +kernel⟩
abbrev m_X_link : oM := (⟨"TrapGateModel", "link", "()I"⟩, prog_9_method_47_code, 2, (some .int), 3, 67)
theorem f_X_link : o_Mf m_X_link 0 := ⟨w_804, w_77, by decide +kernel⟩
abbrev m_X_namesOf : oM := (⟨"TrapGateModel", "namesOf", "(I)I"⟩, prog_9_method_29_code, 4, (some .int), 0, 0)
theorem f_X_namesOf : o_Mf m_X_namesOf 1 := ⟨w_816, w_77, by decide +kernel⟩
abbrev m_X_stat : oM := (⟨"TrapGateModel", "stat", "()I"⟩, prog_9_method_49_code, 3, (some .int), 2, 49)
theorem f_X_stat : o_Mf m_X_stat 0 := ⟨w_812, w_77, by decide +kernel⟩
abbrev m_X_descriptors : oM := (⟨"TrapGateModel", "descriptors", "(I)I"⟩, prog_9_method_32_code, 4, (some .int), 1, 20)
theorem f_X_descriptors : o_Mf m_X_descriptors 1 := ⟨w_824, w_77, by decide +kernel⟩
abbrev m_X_count : oM := (⟨"TrapGateModel", "count", "(I)I"⟩, prog_9_method_31_code, 5, (some .int), 0, 0)
theorem f_X_count : o_Mf m_X_count 1 := ⟨w_828, w_77, by decide +kernel⟩
abbrev m_X_pipes : oM := (⟨"TrapGateModel", "pipes", "()I"⟩, prog_9_method_52_code, 4, (some .int), 2, 49)
theorem f_X_pipes : o_Mf m_X_pipes 0 := ⟨w_820, w_77, by decide +kernel⟩
abbrev m_X_before : oM := (⟨"TrapGateModel", "before", "(II)Z"⟩, prog_9_method_50_code, 4, (some .boolean), 0, 0)
theorem f_X_before : o_Mf m_X_before 2 := ⟨w_836, w_77, by decide +kernel⟩
abbrev m_X_list : oM := (⟨"TrapGateModel", "list", "()I"⟩, prog_9_method_51_code, 5, (some .int), 2, 49)
theorem f_X_list : o_Mf m_X_list 0 := ⟨w_832, w_77, by decide +kernel⟩
abbrev m_X_copy : oM := (⟨"TrapGateModel", "copy", "()I"⟩, prog_9_method_53_code, 3, (some .int), 2, 49)
theorem f_X_copy : o_Mf m_X_copy 0 := ⟨w_840, w_77, by decide +kernel⟩
abbrev m_X_protect : oM := (⟨"TrapGateModel", "protect", "()I"⟩, prog_9_method_54_code, 3, (some .int), 0, 0)
theorem f_X_protect : o_Mf m_X_protect 0 := ⟨w_844, w_77, by decide +kernel⟩
abbrev m_X_rename : oM := (⟨"TrapGateModel", "rename", "()I"⟩, prog_9_method_48_code, 3, (some .int), 3, 67)
theorem f_X_rename : o_Mf m_X_rename 0 := ⟨w_848, w_77, by decide +kernel⟩
abbrev m_X_second : oM := (⟨"TrapGateModel", "second", "(I)I"⟩, prog_9_method_15_code, 2, (some .int), 4, 97)
theorem f_X_second : o_Mf m_X_second 1 := ⟨w_800, w_77, by decide +kernel⟩
abbrev m_X_sweep : oM := (⟨"TrapGateModel", "sweep", "()V"⟩, prog_9_method_33_code, 4, none, 1, 24)
theorem f_X_sweep : o_Mf m_X_sweep 0 := ⟨w_852, w_77, by decide +kernel⟩
abbrev m_X_trap : oM := (⟨"TrapGateModel", "trap", "(II)I"⟩, prog_9_method_13_code, 4, (some .int), 5, 118)
theorem f_X_trap : o_Mf m_X_trap 2 := ⟨w_692, w_77, by decide +kernel⟩
abbrev m_T_call : oM := (⟨"TrapGate", "call", "(IIIII)I"⟩, prog_1_method_10_code, 6, (some .int), 7, 167)
theorem f_T_call : o_Mf m_T_call 5 := ⟨w_526, w_69, by decide +kernel⟩
abbrev m_X_call : oM := (⟨"TrapGateModel", "call", "(IIIII)I"⟩, prog_9_method_12_code, 6, (some .int), 6, 141)
theorem f_X_call : o_Mf m_X_call 5 := ⟨w_688, w_77, by decide +kernel⟩
abbrev m_T_traps : oM := (⟨"TrapGate", "traps", "()I"⟩, prog_1_method_11_code, 1, (some .int), 0, 0)
theorem f_T_traps : o_Mf m_T_traps 0 := ⟨w_531, w_69, by decide +kernel⟩
abbrev m_X_traps : oM := (⟨"TrapGateModel", "traps", "()I"⟩, prog_9_method_16_code, 1, (some .int), 0, 0)
theorem f_X_traps : o_Mf m_X_traps 0 := ⟨w_857, w_77, by decide +kernel⟩
abbrev m_T_filesThere : oM := (⟨"TrapGate", "filesThere", "()I"⟩, prog_1_method_44_code, 3, (some .int), 2, 45)
theorem f_T_filesThere : o_Mf m_T_filesThere 0 := ⟨w_539, w_69, by decide +kernel⟩
abbrev m_O_there : oM := (⟨"TrapGate$Opens", "there", "()I"⟩, prog_4_method_9_code, 3, (some .int), 0, 0)
theorem f_O_there : o_Mf m_O_there 0 := ⟨w_543, w_73, by decide +kernel⟩
abbrev m_T_pipesThere : oM := (⟨"TrapGate", "pipesThere", "()I"⟩, prog_1_method_45_code, 3, (some .int), 2, 45)
theorem f_T_pipesThere : o_Mf m_T_pipesThere 0 := ⟨w_547, w_69, by decide +kernel⟩
abbrev m_T_count : oM := (⟨"TrapGate", "count", "(I)I"⟩, prog_1_method_12_code, 2, (some .int), 3, 67)
theorem f_T_count : o_Mf m_T_count 1 := ⟨w_535, w_69, by decide +kernel⟩
abbrev m_O_descriptorsOf : oM := (⟨"TrapGate$Opens", "descriptorsOf", "(I)I"⟩, prog_4_method_7_code, 4, (some .int), 0, 0)
theorem f_O_descriptorsOf : o_Mf m_O_descriptorsOf 1 := ⟨w_555, w_73, by decide +kernel⟩
abbrev m_T_descriptors : oM := (⟨"TrapGate", "descriptors", "(I)I"⟩, prog_1_method_13_code, 2, (some .int), 2, 41)
theorem f_T_descriptors : o_Mf m_T_descriptors 1 := ⟨w_551, w_69, by decide +kernel⟩
abbrev m_L_law : oM := (⟨"TrapGateLaw", "law", "([I)Z"⟩, code, 4, (some .boolean), 8, 192)
end
section
/-! code in blocks, by program -/
theorem d_A_fill_0 : decode prog_11_method_103_code 0 = .ok (.iconst 0, 1) := by decide +kernel
theorem d_A_fill_1 : decode prog_11_method_103_code 1 = .ok (.istore_n 2, 1) := by decide +kernel
theorem d_A_fill_2 : decode prog_11_method_103_code 2 = .ok (.aload_n 0, 1) := by decide +kernel
theorem d_A_fill_3 : decode prog_11_method_103_code 3 = .ok (.arraylength, 1) := by decide +kernel
theorem d_A_fill_4 : decode prog_11_method_103_code 4 = .ok (.istore_n 3, 1) := by decide +kernel
theorem d_A_fill_5 : decode prog_11_method_103_code 5 = .ok (.iload_n 2, 1) := by decide +kernel
theorem d_A_fill_6 : decode prog_11_method_103_code 6 = .ok (.iload_n 3, 1) := by decide +kernel
theorem d_A_fill_7 : decode prog_11_method_103_code 7 = .ok (.if_icmp .ge 13, 3) := by decide +kernel
theorem d_A_fill_10 : decode prog_11_method_103_code 10 = .ok (.aload_n 0, 1) := by decide +kernel
theorem d_A_fill_11 : decode prog_11_method_103_code 11 = .ok (.iload_n 2, 1) := by decide +kernel
theorem d_A_fill_12 : decode prog_11_method_103_code 12 = .ok (.iload_n 1, 1) := by decide +kernel
theorem d_A_fill_13 : decode prog_11_method_103_code 13 = .ok (.iastore, 1) := by decide +kernel
theorem d_A_fill_14 : decode prog_11_method_103_code 14 = .ok (.iinc 2 1, 3) := by decide +kernel
theorem d_A_fill_17 : decode prog_11_method_103_code 17 = .ok (.goto (-12), 3) := by decide +kernel
theorem d_A_fill_20 : decode prog_11_method_103_code 20 = .ok (.return_, 1) := by decide +kernel
def k_A_fill_0 (G : oG) (Post : oP) : oK := o_iconst 0 <| o_istore 2 <| o_aload 0 <| o_alen G <| o_istore 3 <| o_jmp G m_A_fill Post 5 [0, 1, 2, 3]
theorem s_A_fill_0 {G : oG} {Post : oP} : oS G m_A_fill Post 0 (k_A_fill_0 G Post) := by
  unfold k_A_fill_0
  refine so_iconst d_A_fill_0 rfl ?_
  refine so_istore_n d_A_fill_1 rfl (by decide) ?_
  refine so_aload_n d_A_fill_2 rfl ?_
  refine so_alen d_A_fill_3 ?_
  refine so_istore_n d_A_fill_4 rfl (by decide) ?_
  exact so_jmp
def k_A_fill_5 (G : oG) (Post : oP) : oK := o_iload 2 <| o_iload 3 <| o_icmpge (o_vret Post) (o_aload 0 <| o_iload 2 <| o_iload 1 <| o_iast <| o_iinc 2 1 <| o_jmp G m_A_fill Post 5 [0, 1, 2, 3])
theorem s_A_fill_5 {G : oG} {Post : oP} : oS G m_A_fill Post 5 (k_A_fill_5 G Post) := by
  unfold k_A_fill_5
  refine so_iload_n d_A_fill_5 rfl ?_
  refine so_iload_n d_A_fill_6 rfl ?_
  refine so_icmpge d_A_fill_7 (tgt := 20) (by decide) ?_ ?_
  · exact so_vret d_A_fill_20 rfl
  · refine so_aload_n d_A_fill_10 rfl ?_
    refine so_iload_n d_A_fill_11 rfl ?_
    refine so_iload_n d_A_fill_12 rfl ?_
    refine so_iast d_A_fill_13 ?_
    refine so_iinc d_A_fill_14 rfl (by decide) ?_
    refine so_goto d_A_fill_17 (tgt := 5) (by decide) ?_
    exact so_jmp
theorem d_J_min_0 : decode prog_10_method_69_code 0 = .ok (.iload_n 0, 1) := by decide +kernel
theorem d_J_min_1 : decode prog_10_method_69_code 1 = .ok (.iload_n 1, 1) := by decide +kernel
theorem d_J_min_2 : decode prog_10_method_69_code 2 = .ok (.if_icmp .gt 7, 3) := by decide +kernel
theorem d_J_min_5 : decode prog_10_method_69_code 5 = .ok (.iload_n 0, 1) := by decide +kernel
theorem d_J_min_6 : decode prog_10_method_69_code 6 = .ok (.goto 4, 3) := by decide +kernel
theorem d_J_min_9 : decode prog_10_method_69_code 9 = .ok (.iload_n 1, 1) := by decide +kernel
theorem d_J_min_10 : decode prog_10_method_69_code 10 = .ok (.ireturn, 1) := by decide +kernel
def k_J_min_0 (G : oG) (Post : oP) : oK := o_iload 0 <| o_iload 1 <| o_icmpgt (o_iload 1 <| o_iret Post) (o_iload 0 <| o_iret Post)
theorem s_J_min_0 {G : oG} {Post : oP} : oS G m_J_min Post 0 (k_J_min_0 G Post) := by
  unfold k_J_min_0
  refine so_iload_n d_J_min_0 rfl ?_
  refine so_iload_n d_J_min_1 rfl ?_
  refine so_icmpgt d_J_min_2 (tgt := 9) (by decide) ?_ ?_
  · refine so_iload_n d_J_min_9 rfl ?_
    exact so_iret d_J_min_10 rfl
  · refine so_iload_n d_J_min_5 rfl ?_
    refine so_goto d_J_min_6 (tgt := 10) (by decide) ?_
    exact so_iret d_J_min_10 rfl
theorem d_J_max_0 : decode prog_10_method_65_code 0 = .ok (.iload_n 0, 1) := by decide +kernel
theorem d_J_max_1 : decode prog_10_method_65_code 1 = .ok (.iload_n 1, 1) := by decide +kernel
theorem d_J_max_2 : decode prog_10_method_65_code 2 = .ok (.if_icmp .lt 7, 3) := by decide +kernel
theorem d_J_max_5 : decode prog_10_method_65_code 5 = .ok (.iload_n 0, 1) := by decide +kernel
theorem d_J_max_6 : decode prog_10_method_65_code 6 = .ok (.goto 4, 3) := by decide +kernel
theorem d_J_max_9 : decode prog_10_method_65_code 9 = .ok (.iload_n 1, 1) := by decide +kernel
theorem d_J_max_10 : decode prog_10_method_65_code 10 = .ok (.ireturn, 1) := by decide +kernel
def k_J_max_0 (G : oG) (Post : oP) : oK := o_iload 0 <| o_iload 1 <| o_icmplt (o_iload 1 <| o_iret Post) (o_iload 0 <| o_iret Post)
theorem s_J_max_0 {G : oG} {Post : oP} : oS G m_J_max Post 0 (k_J_max_0 G Post) := by
  unfold k_J_max_0
  refine so_iload_n d_J_max_0 rfl ?_
  refine so_iload_n d_J_max_1 rfl ?_
  refine so_icmplt d_J_max_2 (tgt := 9) (by decide) ?_ ?_
  · refine so_iload_n d_J_max_9 rfl ?_
    exact so_iret d_J_max_10 rfl
  · refine so_iload_n d_J_max_5 rfl ?_
    refine so_goto d_J_max_6 (tgt := 10) (by decide) ?_
    exact so_iret d_J_max_10 rfl
end
section
/-! code in blocks, by program -/
theorem d_M_init_0 : decode prog_2_method_1_code 0 = .ok (.aload_n 0, 1) := by decide +kernel
theorem d_M_init_1 : decode prog_2_method_1_code 1 = .ok (.invokespecial 3, 3) := by decide +kernel
theorem d_M_init_4 : decode prog_2_method_1_code 4 = .ok (.aload_n 0, 1) := by decide +kernel
theorem d_M_init_5 : decode prog_2_method_1_code 5 = .ok (.sipush 320, 3) := by decide +kernel
theorem d_M_init_8 : decode prog_2_method_1_code 8 = .ok (.newarray .int, 2) := by decide +kernel
theorem d_M_init_10 : decode prog_2_method_1_code 10 = .ok (.putfield 9, 3) := by decide +kernel
theorem d_M_init_13 : decode prog_2_method_1_code 13 = .ok (.aload_n 0, 1) := by decide +kernel
theorem d_M_init_14 : decode prog_2_method_1_code 14 = .ok (.bipush 48, 2) := by decide +kernel
theorem d_M_init_16 : decode prog_2_method_1_code 16 = .ok (.newarray .int, 2) := by decide +kernel
theorem d_M_init_18 : decode prog_2_method_1_code 18 = .ok (.putfield 15, 3) := by decide +kernel
theorem d_M_init_21 : decode prog_2_method_1_code 21 = .ok (.aload_n 0, 1) := by decide +kernel
theorem d_M_init_22 : decode prog_2_method_1_code 22 = .ok (.getfield 15, 3) := by decide +kernel
theorem d_M_init_25 : decode prog_2_method_1_code 25 = .ok (.iconst (-1), 1) := by decide +kernel
theorem d_M_init_26 : decode prog_2_method_1_code 26 = .ok (.invokestatic 18, 3) := by decide +kernel
theorem d_M_init_29 : decode prog_2_method_1_code 29 = .ok (.return_, 1) := by decide +kernel
def k_M_init_0 (G : oG) (Post : oP) : oK := o_aload 0 <| o_objInit <| o_aload 0 <| o_iconst 320 <| o_newa 0 (.inl (fun _ => 0)) <| o_putfR 0 0 <| o_aload 0 <| o_iconst 48 <| o_newa 0 (.inl (fun _ => 0)) <| o_putfR 0 1 <| o_aload 0 <| o_getf 0 1 <| o_iconst (-1) <| o_callS G m_A_fill 2 <| o_jmp G m_M_init Post 29 []
theorem s_M_init_0 {G : oG} {Post : oP} : oS G m_M_init Post 0 (k_M_init_0 G Post) := by
  unfold k_M_init_0
  refine so_aload_n d_M_init_0 rfl ?_
  refine so_objInit w_92 w_85 w_objcode (by decide) (by decide) d_M_init_1 ?_
  refine so_aload_n d_M_init_4 rfl ?_
  refine so_sipush d_M_init_5 rfl ?_
  refine so_newa (ty := .int) rfl w_104 (t := 0) rfl (fun _ q => by cases q) (by decide) rfl (fun _ _ => rfl) d_M_init_8 ?_
  refine so_putfRF cl_0 (k := 0) (by decide) (Or.inr ⟨_, rfl⟩) rfl rfl rfl w_96 d_M_init_10 ?_
  refine so_aload_n d_M_init_13 rfl ?_
  refine so_bipush d_M_init_14 rfl ?_
  refine so_newa (ty := .int) rfl w_104 (t := 0) rfl (fun _ q => by cases q) (by decide) rfl (fun _ _ => rfl) d_M_init_16 ?_
  refine so_putfRF cl_0 (k := 1) (by decide) (Or.inr ⟨_, rfl⟩) rfl rfl rfl w_98 d_M_init_18 ?_
  refine so_aload_n d_M_init_21 rfl ?_
  refine so_getf cl_0 (k := 1) (by decide) w_98 d_M_init_22 ?_
  refine so_iconst d_M_init_25 rfl ?_
  refine so_callS f_A_fill w_94 w_93 (by decide) (by decide) d_M_init_26 ?_
  exact so_jmp
def k_M_init_29 (G : oG) (Post : oP) : oK := o_vret Post
theorem s_M_init_29 {G : oG} {Post : oP} : oS G m_M_init Post 29 (k_M_init_29 G Post) := by
  unfold k_M_init_29
  exact so_vret d_M_init_29 rfl
theorem d_M_setEntry_0 : decode prog_2_method_3_code 0 = .ok (.aload_n 0, 1) := by decide +kernel
theorem d_M_setEntry_1 : decode prog_2_method_3_code 1 = .ok (.getfield 15, 3) := by decide +kernel
theorem d_M_setEntry_4 : decode prog_2_method_3_code 4 = .ok (.iload_n 1, 1) := by decide +kernel
theorem d_M_setEntry_5 : decode prog_2_method_3_code 5 = .ok (.bipush 16, 2) := by decide +kernel
theorem d_M_setEntry_7 : decode prog_2_method_3_code 7 = .ok (.imul, 1) := by decide +kernel
theorem d_M_setEntry_8 : decode prog_2_method_3_code 8 = .ok (.iload_n 2, 1) := by decide +kernel
theorem d_M_setEntry_9 : decode prog_2_method_3_code 9 = .ok (.iadd, 1) := by decide +kernel
theorem d_M_setEntry_10 : decode prog_2_method_3_code 10 = .ok (.iload_n 3, 1) := by decide +kernel
theorem d_M_setEntry_11 : decode prog_2_method_3_code 11 = .ok (.iastore, 1) := by decide +kernel
theorem d_M_setEntry_12 : decode prog_2_method_3_code 12 = .ok (.return_, 1) := by decide +kernel
def k_M_setEntry_0 (G : oG) (Post : oP) : oK := o_aload 0 <| o_getf 0 1 <| o_iload 1 <| o_iconst 16 <| o_imul <| o_iload 2 <| o_iadd <| o_iload 3 <| o_iast <| o_vret Post
theorem s_M_setEntry_0 {G : oG} {Post : oP} : oS G m_M_setEntry Post 0 (k_M_setEntry_0 G Post) := by
  unfold k_M_setEntry_0
  refine so_aload_n d_M_setEntry_0 rfl ?_
  refine so_getf cl_0 (k := 1) (by decide) w_98 d_M_setEntry_1 ?_
  refine so_iload_n d_M_setEntry_4 rfl ?_
  refine so_bipush d_M_setEntry_5 rfl ?_
  refine so_imul d_M_setEntry_7 ?_
  refine so_iload_n d_M_setEntry_8 rfl ?_
  refine so_iadd d_M_setEntry_9 ?_
  refine so_iload_n d_M_setEntry_10 rfl ?_
  refine so_iast d_M_setEntry_11 ?_
  exact so_vret d_M_setEntry_12 rfl
theorem d_M_entry_0 : decode prog_2_method_2_code 0 = .ok (.aload_n 0, 1) := by decide +kernel
theorem d_M_entry_1 : decode prog_2_method_2_code 1 = .ok (.getfield 15, 3) := by decide +kernel
theorem d_M_entry_4 : decode prog_2_method_2_code 4 = .ok (.iload_n 1, 1) := by decide +kernel
theorem d_M_entry_5 : decode prog_2_method_2_code 5 = .ok (.bipush 16, 2) := by decide +kernel
theorem d_M_entry_7 : decode prog_2_method_2_code 7 = .ok (.imul, 1) := by decide +kernel
theorem d_M_entry_8 : decode prog_2_method_2_code 8 = .ok (.iload_n 2, 1) := by decide +kernel
theorem d_M_entry_9 : decode prog_2_method_2_code 9 = .ok (.iadd, 1) := by decide +kernel
theorem d_M_entry_10 : decode prog_2_method_2_code 10 = .ok (.iaload, 1) := by decide +kernel
theorem d_M_entry_11 : decode prog_2_method_2_code 11 = .ok (.ireturn, 1) := by decide +kernel
def k_M_entry_0 (G : oG) (Post : oP) : oK := o_aload 0 <| o_getf 0 1 <| o_iload 1 <| o_iconst 16 <| o_imul <| o_iload 2 <| o_iadd <| o_iald G <| o_iret Post
theorem s_M_entry_0 {G : oG} {Post : oP} : oS G m_M_entry Post 0 (k_M_entry_0 G Post) := by
  unfold k_M_entry_0
  refine so_aload_n d_M_entry_0 rfl ?_
  refine so_getf cl_0 (k := 1) (by decide) w_98 d_M_entry_1 ?_
  refine so_iload_n d_M_entry_4 rfl ?_
  refine so_bipush d_M_entry_5 rfl ?_
  refine so_imul d_M_entry_7 ?_
  refine so_iload_n d_M_entry_8 rfl ?_
  refine so_iadd d_M_entry_9 ?_
  refine so_iald d_M_entry_10 ?_
  exact so_iret d_M_entry_11 rfl
theorem d_M_allows_0 : decode prog_2_method_4_code 0 = .ok (.iload_n 3, 1) := by decide +kernel
theorem d_M_allows_1 : decode prog_2_method_4_code 1 = .ok (.ifCond .ne 5, 3) := by decide +kernel
theorem d_M_allows_4 : decode prog_2_method_4_code 4 = .ok (.iconst 1, 1) := by decide +kernel
theorem d_M_allows_5 : decode prog_2_method_4_code 5 = .ok (.ireturn, 1) := by decide +kernel
theorem d_M_allows_6 : decode prog_2_method_4_code 6 = .ok (.iload_n 3, 1) := by decide +kernel
theorem d_M_allows_7 : decode prog_2_method_4_code 7 = .ok (.ifCond .lt 23, 3) := by decide +kernel
theorem d_M_allows_10 : decode prog_2_method_4_code 10 = .ok (.iload_n 3, 1) := by decide +kernel
theorem d_M_allows_11 : decode prog_2_method_4_code 11 = .ok (.sipush 256, 3) := by decide +kernel
theorem d_M_allows_14 : decode prog_2_method_4_code 14 = .ok (.if_icmp .gt 16, 3) := by decide +kernel
theorem d_M_allows_17 : decode prog_2_method_4_code 17 = .ok (.iload_n 2, 1) := by decide +kernel
theorem d_M_allows_18 : decode prog_2_method_4_code 18 = .ok (.ifCond .lt 12, 3) := by decide +kernel
theorem d_M_allows_21 : decode prog_2_method_4_code 21 = .ok (.iload_n 2, 1) := by decide +kernel
theorem d_M_allows_22 : decode prog_2_method_4_code 22 = .ok (.sipush 256, 3) := by decide +kernel
theorem d_M_allows_25 : decode prog_2_method_4_code 25 = .ok (.iload_n 3, 1) := by decide +kernel
theorem d_M_allows_26 : decode prog_2_method_4_code 26 = .ok (.isub, 1) := by decide +kernel
theorem d_M_allows_27 : decode prog_2_method_4_code 27 = .ok (.if_icmp .le 5, 3) := by decide +kernel
theorem d_M_allows_30 : decode prog_2_method_4_code 30 = .ok (.iconst 0, 1) := by decide +kernel
theorem d_M_allows_31 : decode prog_2_method_4_code 31 = .ok (.ireturn, 1) := by decide +kernel
theorem d_M_allows_32 : decode prog_2_method_4_code 32 = .ok (.iload_n 2, 1) := by decide +kernel
theorem d_M_allows_33 : decode prog_2_method_4_code 33 = .ok (.iload_n 3, 1) := by decide +kernel
theorem d_M_allows_34 : decode prog_2_method_4_code 34 = .ok (.iadd, 1) := by decide +kernel
theorem d_M_allows_35 : decode prog_2_method_4_code 35 = .ok (.iconst 1, 1) := by decide +kernel
theorem d_M_allows_36 : decode prog_2_method_4_code 36 = .ok (.isub, 1) := by decide +kernel
theorem d_M_allows_37 : decode prog_2_method_4_code 37 = .ok (.bipush 16, 2) := by decide +kernel
theorem d_M_allows_39 : decode prog_2_method_4_code 39 = .ok (.idiv, 1) := by decide +kernel
theorem d_M_allows_40 : decode prog_2_method_4_code 40 = .ok (.istore 5, 2) := by decide +kernel
theorem d_M_allows_42 : decode prog_2_method_4_code 42 = .ok (.iload 4, 2) := by decide +kernel
theorem d_M_allows_44 : decode prog_2_method_4_code 44 = .ok (.iconst 4, 1) := by decide +kernel
theorem d_M_allows_45 : decode prog_2_method_4_code 45 = .ok (.ior, 1) := by decide +kernel
theorem d_M_allows_46 : decode prog_2_method_4_code 46 = .ok (.istore 6, 2) := by decide +kernel
theorem d_M_allows_48 : decode prog_2_method_4_code 48 = .ok (.iload_n 2, 1) := by decide +kernel
theorem d_M_allows_49 : decode prog_2_method_4_code 49 = .ok (.bipush 16, 2) := by decide +kernel
theorem d_M_allows_51 : decode prog_2_method_4_code 51 = .ok (.idiv, 1) := by decide +kernel
theorem d_M_allows_52 : decode prog_2_method_4_code 52 = .ok (.istore 7, 2) := by decide +kernel
theorem d_M_allows_54 : decode prog_2_method_4_code 54 = .ok (.iload 7, 2) := by decide +kernel
theorem d_M_allows_56 : decode prog_2_method_4_code 56 = .ok (.iload 5, 2) := by decide +kernel
theorem d_M_allows_58 : decode prog_2_method_4_code 58 = .ok (.if_icmp .gt 36, 3) := by decide +kernel
theorem d_M_allows_61 : decode prog_2_method_4_code 61 = .ok (.aload_n 0, 1) := by decide +kernel
theorem d_M_allows_62 : decode prog_2_method_4_code 62 = .ok (.iload_n 1, 1) := by decide +kernel
theorem d_M_allows_63 : decode prog_2_method_4_code 63 = .ok (.iload 7, 2) := by decide +kernel
theorem d_M_allows_65 : decode prog_2_method_4_code 65 = .ok (.invokevirtual 24, 3) := by decide +kernel
theorem d_M_allows_68 : decode prog_2_method_4_code 68 = .ok (.istore 8, 2) := by decide +kernel
theorem d_M_allows_70 : decode prog_2_method_4_code 70 = .ok (.iload 8, 2) := by decide +kernel
theorem d_M_allows_72 : decode prog_2_method_4_code 72 = .ok (.iconst (-1), 1) := by decide +kernel
theorem d_M_allows_73 : decode prog_2_method_4_code 73 = .ok (.if_icmp .eq 13, 3) := by decide +kernel
theorem d_M_allows_76 : decode prog_2_method_4_code 76 = .ok (.iload 8, 2) := by decide +kernel
theorem d_M_allows_78 : decode prog_2_method_4_code 78 = .ok (.iload 6, 2) := by decide +kernel
theorem d_M_allows_80 : decode prog_2_method_4_code 80 = .ok (.iand, 1) := by decide +kernel
theorem d_M_allows_81 : decode prog_2_method_4_code 81 = .ok (.iload 6, 2) := by decide +kernel
theorem d_M_allows_83 : decode prog_2_method_4_code 83 = .ok (.if_icmp .eq 5, 3) := by decide +kernel
theorem d_M_allows_86 : decode prog_2_method_4_code 86 = .ok (.iconst 0, 1) := by decide +kernel
theorem d_M_allows_87 : decode prog_2_method_4_code 87 = .ok (.ireturn, 1) := by decide +kernel
theorem d_M_allows_88 : decode prog_2_method_4_code 88 = .ok (.iinc 7 1, 3) := by decide +kernel
theorem d_M_allows_91 : decode prog_2_method_4_code 91 = .ok (.goto (-37), 3) := by decide +kernel
theorem d_M_allows_94 : decode prog_2_method_4_code 94 = .ok (.iconst 1, 1) := by decide +kernel
theorem d_M_allows_95 : decode prog_2_method_4_code 95 = .ok (.ireturn, 1) := by decide +kernel
def k_M_allows_0 (G : oG) (Post : oP) : oK := o_iload 3 <| o_ifne (o_jmp G m_M_allows Post 6 [0, 1, 2, 3, 4]) (o_iconst 1 <| o_zret Post)
theorem s_M_allows_0 {G : oG} {Post : oP} : oS G m_M_allows Post 0 (k_M_allows_0 G Post) := by
  unfold k_M_allows_0
  refine so_iload_n d_M_allows_0 rfl ?_
  refine so_ifne d_M_allows_1 (tgt := 6) (by decide) ?_ ?_
  · exact so_jmp
  · refine so_iconst d_M_allows_4 rfl ?_
    exact so_zret d_M_allows_5 rfl
def k_M_allows_6 (G : oG) (Post : oP) : oK := o_iload 3 <| o_iflt (o_iconst 0 <| o_zret Post) (o_iload 3 <| o_iconst 256 <| o_icmpgt (o_iconst 0 <| o_zret Post) (o_iload 2 <| o_iflt (o_iconst 0 <| o_zret Post) (o_iload 2 <| o_iconst 256 <| o_iload 3 <| o_isub <| o_icmple (o_jmp G m_M_allows Post 32 [0, 1, 2, 3, 4]) (o_iconst 0 <| o_zret Post))))
theorem s_M_allows_6 {G : oG} {Post : oP} : oS G m_M_allows Post 6 (k_M_allows_6 G Post) := by
  unfold k_M_allows_6
  refine so_iload_n d_M_allows_6 rfl ?_
  refine so_iflt d_M_allows_7 (tgt := 30) (by decide) ?_ ?_
  · refine so_iconst d_M_allows_30 rfl ?_
    exact so_zret d_M_allows_31 rfl
  · refine so_iload_n d_M_allows_10 rfl ?_
    refine so_sipush d_M_allows_11 rfl ?_
    refine so_icmpgt d_M_allows_14 (tgt := 30) (by decide) ?_ ?_
    · refine so_iconst d_M_allows_30 rfl ?_
      exact so_zret d_M_allows_31 rfl
    · refine so_iload_n d_M_allows_17 rfl ?_
      refine so_iflt d_M_allows_18 (tgt := 30) (by decide) ?_ ?_
      · refine so_iconst d_M_allows_30 rfl ?_
        exact so_zret d_M_allows_31 rfl
      · refine so_iload_n d_M_allows_21 rfl ?_
        refine so_sipush d_M_allows_22 rfl ?_
        refine so_iload_n d_M_allows_25 rfl ?_
        refine so_isub d_M_allows_26 ?_
        refine so_icmple d_M_allows_27 (tgt := 32) (by decide) ?_ ?_
        · exact so_jmp
        · refine so_iconst d_M_allows_30 rfl ?_
          exact so_zret d_M_allows_31 rfl
def k_M_allows_32 (G : oG) (Post : oP) : oK := o_iload 2 <| o_iload 3 <| o_iadd <| o_iconst 1 <| o_isub <| o_iconst 16 <| o_idiv <| o_istore 5 <| o_iload 4 <| o_iconst 4 <| o_ior <| o_istore 6 <| o_iload 2 <| o_iconst 16 <| o_idiv <| o_istore 7 <| o_jmp G m_M_allows Post 54 [0, 1, 5, 6, 7]
theorem s_M_allows_32 {G : oG} {Post : oP} : oS G m_M_allows Post 32 (k_M_allows_32 G Post) := by
  unfold k_M_allows_32
  refine so_iload_n d_M_allows_32 rfl ?_
  refine so_iload_n d_M_allows_33 rfl ?_
  refine so_iadd d_M_allows_34 ?_
  refine so_iconst d_M_allows_35 rfl ?_
  refine so_isub d_M_allows_36 ?_
  refine so_bipush d_M_allows_37 rfl ?_
  refine so_idiv d_M_allows_39 ?_
  refine so_istore d_M_allows_40 (by decide) ?_
  refine so_iload d_M_allows_42 ?_
  refine so_iconst d_M_allows_44 rfl ?_
  refine so_ior d_M_allows_45 ?_
  refine so_istore d_M_allows_46 (by decide) ?_
  refine so_iload_n d_M_allows_48 rfl ?_
  refine so_bipush d_M_allows_49 rfl ?_
  refine so_idiv d_M_allows_51 ?_
  refine so_istore d_M_allows_52 (by decide) ?_
  exact so_jmp
def k_M_allows_54 (G : oG) (Post : oP) : oK := o_iload 7 <| o_iload 5 <| o_icmpgt (o_iconst 1 <| o_zret Post) (o_aload 0 <| o_iload 1 <| o_iload 7 <| o_callV G 0 m_M_entry 2 <| o_jmp G m_M_allows Post 68 [0, 1, 5, 6, 7])
theorem s_M_allows_54 {G : oG} {Post : oP} : oS G m_M_allows Post 54 (k_M_allows_54 G Post) := by
  unfold k_M_allows_54
  refine so_iload d_M_allows_54 ?_
  refine so_iload d_M_allows_56 ?_
  refine so_icmpgt d_M_allows_58 (tgt := 94) (by decide) ?_ ?_
  · refine so_iconst d_M_allows_94 rfl ?_
    exact so_zret d_M_allows_95 rfl
  · refine so_aload_n d_M_allows_61 rfl ?_
    refine so_iload_n d_M_allows_62 rfl ?_
    refine so_iload d_M_allows_63 ?_
    refine so_callV cl_0 f_M_entry w_247 w_248 w_290 (by decide) (by decide) d_M_allows_65 ?_
    exact so_jmp
def k_M_allows_68 (G : oG) (Post : oP) : oK := o_istore 8 <| o_iload 8 <| o_iconst (-1) <| o_icmpeq (o_iconst 0 <| o_zret Post) (o_iload 8 <| o_iload 6 <| o_iand <| o_iload 6 <| o_icmpeq (o_iinc 7 1 <| o_jmp G m_M_allows Post 54 [0, 1, 5, 6, 7]) (o_iconst 0 <| o_zret Post))
theorem s_M_allows_68 {G : oG} {Post : oP} : oS G m_M_allows Post 68 (k_M_allows_68 G Post) := by
  unfold k_M_allows_68
  refine so_istore d_M_allows_68 (by decide) ?_
  refine so_iload d_M_allows_70 ?_
  refine so_iconst d_M_allows_72 rfl ?_
  refine so_icmpeq d_M_allows_73 (tgt := 86) (by decide) ?_ ?_
  · refine so_iconst d_M_allows_86 rfl ?_
    exact so_zret d_M_allows_87 rfl
  · refine so_iload d_M_allows_76 ?_
    refine so_iload d_M_allows_78 ?_
    refine so_iand d_M_allows_80 ?_
    refine so_iload d_M_allows_81 ?_
    refine so_icmpeq d_M_allows_83 (tgt := 88) (by decide) ?_ ?_
    · refine so_iinc d_M_allows_88 rfl (by decide) ?_
      refine so_goto d_M_allows_91 (tgt := 54) (by decide) ?_
      exact so_jmp
    · refine so_iconst d_M_allows_86 rfl ?_
      exact so_zret d_M_allows_87 rfl
theorem d_M_load_0 : decode prog_2_method_5_code 0 = .ok (.aload_n 0, 1) := by decide +kernel
theorem d_M_load_1 : decode prog_2_method_5_code 1 = .ok (.getfield 15, 3) := by decide +kernel
theorem d_M_load_4 : decode prog_2_method_5_code 4 = .ok (.iload_n 1, 1) := by decide +kernel
theorem d_M_load_5 : decode prog_2_method_5_code 5 = .ok (.bipush 16, 2) := by decide +kernel
theorem d_M_load_7 : decode prog_2_method_5_code 7 = .ok (.imul, 1) := by decide +kernel
theorem d_M_load_8 : decode prog_2_method_5_code 8 = .ok (.iload_n 2, 1) := by decide +kernel
theorem d_M_load_9 : decode prog_2_method_5_code 9 = .ok (.bipush 16, 2) := by decide +kernel
theorem d_M_load_11 : decode prog_2_method_5_code 11 = .ok (.idiv, 1) := by decide +kernel
theorem d_M_load_12 : decode prog_2_method_5_code 12 = .ok (.iadd, 1) := by decide +kernel
theorem d_M_load_13 : decode prog_2_method_5_code 13 = .ok (.iaload, 1) := by decide +kernel
theorem d_M_load_14 : decode prog_2_method_5_code 14 = .ok (.bipush 8, 2) := by decide +kernel
theorem d_M_load_16 : decode prog_2_method_5_code 16 = .ok (.idiv, 1) := by decide +kernel
theorem d_M_load_17 : decode prog_2_method_5_code 17 = .ok (.istore_n 3, 1) := by decide +kernel
theorem d_M_load_18 : decode prog_2_method_5_code 18 = .ok (.aload_n 0, 1) := by decide +kernel
theorem d_M_load_19 : decode prog_2_method_5_code 19 = .ok (.getfield 9, 3) := by decide +kernel
theorem d_M_load_22 : decode prog_2_method_5_code 22 = .ok (.iload_n 3, 1) := by decide +kernel
theorem d_M_load_23 : decode prog_2_method_5_code 23 = .ok (.bipush 16, 2) := by decide +kernel
theorem d_M_load_25 : decode prog_2_method_5_code 25 = .ok (.imul, 1) := by decide +kernel
theorem d_M_load_26 : decode prog_2_method_5_code 26 = .ok (.iload_n 2, 1) := by decide +kernel
theorem d_M_load_27 : decode prog_2_method_5_code 27 = .ok (.bipush 16, 2) := by decide +kernel
theorem d_M_load_29 : decode prog_2_method_5_code 29 = .ok (.irem, 1) := by decide +kernel
theorem d_M_load_30 : decode prog_2_method_5_code 30 = .ok (.iadd, 1) := by decide +kernel
theorem d_M_load_31 : decode prog_2_method_5_code 31 = .ok (.iaload, 1) := by decide +kernel
theorem d_M_load_32 : decode prog_2_method_5_code 32 = .ok (.ireturn, 1) := by decide +kernel
def k_M_load_0 (G : oG) (Post : oP) : oK := o_aload 0 <| o_getf 0 1 <| o_iload 1 <| o_iconst 16 <| o_imul <| o_iload 2 <| o_iconst 16 <| o_idiv <| o_iadd <| o_iald G <| o_iconst 8 <| o_idiv <| o_istore 3 <| o_aload 0 <| o_getf 0 0 <| o_iload 3 <| o_iconst 16 <| o_imul <| o_iload 2 <| o_iconst 16 <| o_irem <| o_iadd <| o_iald G <| o_iret Post
theorem s_M_load_0 {G : oG} {Post : oP} : oS G m_M_load Post 0 (k_M_load_0 G Post) := by
  unfold k_M_load_0
  refine so_aload_n d_M_load_0 rfl ?_
  refine so_getf cl_0 (k := 1) (by decide) w_98 d_M_load_1 ?_
  refine so_iload_n d_M_load_4 rfl ?_
  refine so_bipush d_M_load_5 rfl ?_
  refine so_imul d_M_load_7 ?_
  refine so_iload_n d_M_load_8 rfl ?_
  refine so_bipush d_M_load_9 rfl ?_
  refine so_idiv d_M_load_11 ?_
  refine so_iadd d_M_load_12 ?_
  refine so_iald d_M_load_13 ?_
  refine so_bipush d_M_load_14 rfl ?_
  refine so_idiv d_M_load_16 ?_
  refine so_istore_n d_M_load_17 rfl (by decide) ?_
  refine so_aload_n d_M_load_18 rfl ?_
  refine so_getf cl_0 (k := 0) (by decide) w_96 d_M_load_19 ?_
  refine so_iload_n d_M_load_22 rfl ?_
  refine so_bipush d_M_load_23 rfl ?_
  refine so_imul d_M_load_25 ?_
  refine so_iload_n d_M_load_26 rfl ?_
  refine so_bipush d_M_load_27 rfl ?_
  refine so_irem d_M_load_29 ?_
  refine so_iadd d_M_load_30 ?_
  refine so_iald d_M_load_31 ?_
  exact so_iret d_M_load_32 rfl
theorem d_M_textAt_0 : decode prog_2_method_7_code 0 = .ok (.lconst 0, 1) := by decide +kernel
theorem d_M_textAt_1 : decode prog_2_method_7_code 1 = .ok (.lstore_n 3, 1) := by decide +kernel
theorem d_M_textAt_2 : decode prog_2_method_7_code 2 = .ok (.iconst 0, 1) := by decide +kernel
theorem d_M_textAt_3 : decode prog_2_method_7_code 3 = .ok (.istore 5, 2) := by decide +kernel
theorem d_M_textAt_5 : decode prog_2_method_7_code 5 = .ok (.iload 5, 2) := by decide +kernel
theorem d_M_textAt_7 : decode prog_2_method_7_code 7 = .ok (.bipush 7, 2) := by decide +kernel
theorem d_M_textAt_9 : decode prog_2_method_7_code 9 = .ok (.if_icmp .gt 63, 3) := by decide +kernel
theorem d_M_textAt_12 : decode prog_2_method_7_code 12 = .ok (.aload_n 0, 1) := by decide +kernel
theorem d_M_textAt_13 : decode prog_2_method_7_code 13 = .ok (.iload_n 1, 1) := by decide +kernel
theorem d_M_textAt_14 : decode prog_2_method_7_code 14 = .ok (.iload_n 2, 1) := by decide +kernel
theorem d_M_textAt_15 : decode prog_2_method_7_code 15 = .ok (.iload 5, 2) := by decide +kernel
theorem d_M_textAt_17 : decode prog_2_method_7_code 17 = .ok (.iadd, 1) := by decide +kernel
theorem d_M_textAt_18 : decode prog_2_method_7_code 18 = .ok (.iconst 1, 1) := by decide +kernel
theorem d_M_textAt_19 : decode prog_2_method_7_code 19 = .ok (.iconst 1, 1) := by decide +kernel
theorem d_M_textAt_20 : decode prog_2_method_7_code 20 = .ok (.invokevirtual 28, 3) := by decide +kernel
theorem d_M_textAt_23 : decode prog_2_method_7_code 23 = .ok (.ifCond .ne 7, 3) := by decide +kernel
theorem d_M_textAt_26 : decode prog_2_method_7_code 26 = .ok (.ldc2_w 32, 3) := by decide +kernel
theorem d_M_textAt_29 : decode prog_2_method_7_code 29 = .ok (.lreturn, 1) := by decide +kernel
theorem d_M_textAt_30 : decode prog_2_method_7_code 30 = .ok (.aload_n 0, 1) := by decide +kernel
theorem d_M_textAt_31 : decode prog_2_method_7_code 31 = .ok (.iload_n 1, 1) := by decide +kernel
theorem d_M_textAt_32 : decode prog_2_method_7_code 32 = .ok (.iload_n 2, 1) := by decide +kernel
theorem d_M_textAt_33 : decode prog_2_method_7_code 33 = .ok (.iload 5, 2) := by decide +kernel
theorem d_M_textAt_35 : decode prog_2_method_7_code 35 = .ok (.iadd, 1) := by decide +kernel
theorem d_M_textAt_36 : decode prog_2_method_7_code 36 = .ok (.invokevirtual 34, 3) := by decide +kernel
theorem d_M_textAt_39 : decode prog_2_method_7_code 39 = .ok (.istore 6, 2) := by decide +kernel
theorem d_M_textAt_41 : decode prog_2_method_7_code 41 = .ok (.iload 6, 2) := by decide +kernel
theorem d_M_textAt_43 : decode prog_2_method_7_code 43 = .ok (.ifCond .ne 14, 3) := by decide +kernel
theorem d_M_textAt_46 : decode prog_2_method_7_code 46 = .ok (.lload_n 3, 1) := by decide +kernel
theorem d_M_textAt_47 : decode prog_2_method_7_code 47 = .ok (.bipush 8, 2) := by decide +kernel
theorem d_M_textAt_49 : decode prog_2_method_7_code 49 = .ok (.bipush 7, 2) := by decide +kernel
theorem d_M_textAt_51 : decode prog_2_method_7_code 51 = .ok (.iload 5, 2) := by decide +kernel
theorem d_M_textAt_53 : decode prog_2_method_7_code 53 = .ok (.isub, 1) := by decide +kernel
theorem d_M_textAt_54 : decode prog_2_method_7_code 54 = .ok (.imul, 1) := by decide +kernel
theorem d_M_textAt_55 : decode prog_2_method_7_code 55 = .ok (.lshl, 1) := by decide +kernel
theorem d_M_textAt_56 : decode prog_2_method_7_code 56 = .ok (.lreturn, 1) := by decide +kernel
theorem d_M_textAt_57 : decode prog_2_method_7_code 57 = .ok (.lload_n 3, 1) := by decide +kernel
theorem d_M_textAt_58 : decode prog_2_method_7_code 58 = .ok (.bipush 8, 2) := by decide +kernel
theorem d_M_textAt_60 : decode prog_2_method_7_code 60 = .ok (.lshl, 1) := by decide +kernel
theorem d_M_textAt_61 : decode prog_2_method_7_code 61 = .ok (.iload 6, 2) := by decide +kernel
theorem d_M_textAt_63 : decode prog_2_method_7_code 63 = .ok (.i2l, 1) := by decide +kernel
theorem d_M_textAt_64 : decode prog_2_method_7_code 64 = .ok (.lor, 1) := by decide +kernel
theorem d_M_textAt_65 : decode prog_2_method_7_code 65 = .ok (.lstore_n 3, 1) := by decide +kernel
theorem d_M_textAt_66 : decode prog_2_method_7_code 66 = .ok (.iinc 5 1, 3) := by decide +kernel
theorem d_M_textAt_69 : decode prog_2_method_7_code 69 = .ok (.goto (-64), 3) := by decide +kernel
theorem d_M_textAt_72 : decode prog_2_method_7_code 72 = .ok (.ldc2_w 32, 3) := by decide +kernel
theorem d_M_textAt_75 : decode prog_2_method_7_code 75 = .ok (.lreturn, 1) := by decide +kernel
def k_M_textAt_0 (G : oG) (Post : oP) : oK := o_lconst 0 <| o_lstore 3 <| o_iconst 0 <| o_istore 5 <| o_jmp G m_M_textAt Post 5 [0, 1, 2, 3, 5]
theorem s_M_textAt_0 {G : oG} {Post : oP} : oS G m_M_textAt Post 0 (k_M_textAt_0 G Post) := by
  unfold k_M_textAt_0
  refine so_lconst d_M_textAt_0 rfl ?_
  refine so_lstore_n d_M_textAt_1 rfl (by decide) ?_
  refine so_iconst d_M_textAt_2 rfl ?_
  refine so_istore d_M_textAt_3 (by decide) ?_
  exact so_jmp
def k_M_textAt_5 (G : oG) (Post : oP) : oK := o_iload 5 <| o_iconst 7 <| o_icmpgt (o_lconst (-1) <| o_lret Post) (o_aload 0 <| o_iload 1 <| o_iload 2 <| o_iload 5 <| o_iadd <| o_iconst 1 <| o_iconst 1 <| o_callV G 0 m_M_allows 4 <| o_jmp G m_M_textAt Post 23 [0, 1, 2, 3, 5])
theorem s_M_textAt_5 {G : oG} {Post : oP} : oS G m_M_textAt Post 5 (k_M_textAt_5 G Post) := by
  unfold k_M_textAt_5
  refine so_iload d_M_textAt_5 ?_
  refine so_bipush d_M_textAt_7 rfl ?_
  refine so_icmpgt d_M_textAt_9 (tgt := 72) (by decide) ?_ ?_
  · refine so_ldc2 w_291 d_M_textAt_72 ?_
    exact so_lret d_M_textAt_75 rfl
  · refine so_aload_n d_M_textAt_12 rfl ?_
    refine so_iload_n d_M_textAt_13 rfl ?_
    refine so_iload_n d_M_textAt_14 rfl ?_
    refine so_iload d_M_textAt_15 ?_
    refine so_iadd d_M_textAt_17 ?_
    refine so_iconst d_M_textAt_18 rfl ?_
    refine so_iconst d_M_textAt_19 rfl ?_
    refine so_callV cl_0 f_M_allows w_287 w_288 w_286 (by decide) (by decide) d_M_textAt_20 ?_
    exact so_jmp
def k_M_textAt_23 (G : oG) (Post : oP) : oK := o_ifne (o_aload 0 <| o_iload 1 <| o_iload 2 <| o_iload 5 <| o_iadd <| o_callV G 0 m_M_load 2 <| o_jmp G m_M_textAt Post 39 [0, 1, 2, 3, 5]) (o_lconst (-1) <| o_lret Post)
theorem s_M_textAt_23 {G : oG} {Post : oP} : oS G m_M_textAt Post 23 (k_M_textAt_23 G Post) := by
  unfold k_M_textAt_23
  refine so_ifne d_M_textAt_23 (tgt := 30) (by decide) ?_ ?_
  · refine so_aload_n d_M_textAt_30 rfl ?_
    refine so_iload_n d_M_textAt_31 rfl ?_
    refine so_iload_n d_M_textAt_32 rfl ?_
    refine so_iload d_M_textAt_33 ?_
    refine so_iadd d_M_textAt_35 ?_
    refine so_callV cl_0 f_M_load w_293 w_294 w_292 (by decide) (by decide) d_M_textAt_36 ?_
    exact so_jmp
  · refine so_ldc2 w_291 d_M_textAt_26 ?_
    exact so_lret d_M_textAt_29 rfl
def k_M_textAt_39 (G : oG) (Post : oP) : oK := o_istore 6 <| o_iload 6 <| o_ifne (o_lload 3 <| o_iconst 8 <| o_lshl <| o_iload 6 <| o_i2l <| o_lor <| o_lstore 3 <| o_iinc 5 1 <| o_jmp G m_M_textAt Post 5 [0, 1, 2, 3, 5]) (o_lload 3 <| o_iconst 8 <| o_iconst 7 <| o_iload 5 <| o_isub <| o_imul <| o_lshl <| o_lret Post)
theorem s_M_textAt_39 {G : oG} {Post : oP} : oS G m_M_textAt Post 39 (k_M_textAt_39 G Post) := by
  unfold k_M_textAt_39
  refine so_istore d_M_textAt_39 (by decide) ?_
  refine so_iload d_M_textAt_41 ?_
  refine so_ifne d_M_textAt_43 (tgt := 57) (by decide) ?_ ?_
  · refine so_lload_n d_M_textAt_57 rfl ?_
    refine so_bipush d_M_textAt_58 rfl ?_
    refine so_lshl d_M_textAt_60 ?_
    refine so_iload d_M_textAt_61 ?_
    refine so_i2l d_M_textAt_63 ?_
    refine so_lor d_M_textAt_64 ?_
    refine so_lstore_n d_M_textAt_65 rfl (by decide) ?_
    refine so_iinc d_M_textAt_66 rfl (by decide) ?_
    refine so_goto d_M_textAt_69 (tgt := 5) (by decide) ?_
    exact so_jmp
  · refine so_lload_n d_M_textAt_46 rfl ?_
    refine so_bipush d_M_textAt_47 rfl ?_
    refine so_bipush d_M_textAt_49 rfl ?_
    refine so_iload d_M_textAt_51 ?_
    refine so_isub d_M_textAt_53 ?_
    refine so_imul d_M_textAt_54 ?_
    refine so_lshl d_M_textAt_55 ?_
    exact so_lret d_M_textAt_56 rfl
theorem d_M_store_0 : decode prog_2_method_6_code 0 = .ok (.aload_n 0, 1) := by decide +kernel
theorem d_M_store_1 : decode prog_2_method_6_code 1 = .ok (.getfield 15, 3) := by decide +kernel
theorem d_M_store_4 : decode prog_2_method_6_code 4 = .ok (.iload_n 1, 1) := by decide +kernel
theorem d_M_store_5 : decode prog_2_method_6_code 5 = .ok (.bipush 16, 2) := by decide +kernel
theorem d_M_store_7 : decode prog_2_method_6_code 7 = .ok (.imul, 1) := by decide +kernel
theorem d_M_store_8 : decode prog_2_method_6_code 8 = .ok (.iload_n 2, 1) := by decide +kernel
theorem d_M_store_9 : decode prog_2_method_6_code 9 = .ok (.bipush 16, 2) := by decide +kernel
theorem d_M_store_11 : decode prog_2_method_6_code 11 = .ok (.idiv, 1) := by decide +kernel
theorem d_M_store_12 : decode prog_2_method_6_code 12 = .ok (.iadd, 1) := by decide +kernel
theorem d_M_store_13 : decode prog_2_method_6_code 13 = .ok (.iaload, 1) := by decide +kernel
theorem d_M_store_14 : decode prog_2_method_6_code 14 = .ok (.bipush 8, 2) := by decide +kernel
theorem d_M_store_16 : decode prog_2_method_6_code 16 = .ok (.idiv, 1) := by decide +kernel
theorem d_M_store_17 : decode prog_2_method_6_code 17 = .ok (.istore 4, 2) := by decide +kernel
theorem d_M_store_19 : decode prog_2_method_6_code 19 = .ok (.aload_n 0, 1) := by decide +kernel
theorem d_M_store_20 : decode prog_2_method_6_code 20 = .ok (.getfield 9, 3) := by decide +kernel
theorem d_M_store_23 : decode prog_2_method_6_code 23 = .ok (.iload 4, 2) := by decide +kernel
theorem d_M_store_25 : decode prog_2_method_6_code 25 = .ok (.bipush 16, 2) := by decide +kernel
theorem d_M_store_27 : decode prog_2_method_6_code 27 = .ok (.imul, 1) := by decide +kernel
theorem d_M_store_28 : decode prog_2_method_6_code 28 = .ok (.iload_n 2, 1) := by decide +kernel
theorem d_M_store_29 : decode prog_2_method_6_code 29 = .ok (.bipush 16, 2) := by decide +kernel
theorem d_M_store_31 : decode prog_2_method_6_code 31 = .ok (.irem, 1) := by decide +kernel
theorem d_M_store_32 : decode prog_2_method_6_code 32 = .ok (.iadd, 1) := by decide +kernel
theorem d_M_store_33 : decode prog_2_method_6_code 33 = .ok (.iload_n 3, 1) := by decide +kernel
theorem d_M_store_34 : decode prog_2_method_6_code 34 = .ok (.iastore, 1) := by decide +kernel
theorem d_M_store_35 : decode prog_2_method_6_code 35 = .ok (.return_, 1) := by decide +kernel
def k_M_store_0 (G : oG) (Post : oP) : oK := o_aload 0 <| o_getf 0 1 <| o_iload 1 <| o_iconst 16 <| o_imul <| o_iload 2 <| o_iconst 16 <| o_idiv <| o_iadd <| o_iald G <| o_iconst 8 <| o_idiv <| o_istore 4 <| o_aload 0 <| o_getf 0 0 <| o_iload 4 <| o_iconst 16 <| o_imul <| o_iload 2 <| o_iconst 16 <| o_irem <| o_iadd <| o_iload 3 <| o_iast <| o_vret Post
theorem s_M_store_0 {G : oG} {Post : oP} : oS G m_M_store Post 0 (k_M_store_0 G Post) := by
  unfold k_M_store_0
  refine so_aload_n d_M_store_0 rfl ?_
  refine so_getf cl_0 (k := 1) (by decide) w_98 d_M_store_1 ?_
  refine so_iload_n d_M_store_4 rfl ?_
  refine so_bipush d_M_store_5 rfl ?_
  refine so_imul d_M_store_7 ?_
  refine so_iload_n d_M_store_8 rfl ?_
  refine so_bipush d_M_store_9 rfl ?_
  refine so_idiv d_M_store_11 ?_
  refine so_iadd d_M_store_12 ?_
  refine so_iald d_M_store_13 ?_
  refine so_bipush d_M_store_14 rfl ?_
  refine so_idiv d_M_store_16 ?_
  refine so_istore d_M_store_17 (by decide) ?_
  refine so_aload_n d_M_store_19 rfl ?_
  refine so_getf cl_0 (k := 0) (by decide) w_96 d_M_store_20 ?_
  refine so_iload d_M_store_23 ?_
  refine so_bipush d_M_store_25 rfl ?_
  refine so_imul d_M_store_27 ?_
  refine so_iload_n d_M_store_28 rfl ?_
  refine so_bipush d_M_store_29 rfl ?_
  refine so_irem d_M_store_31 ?_
  refine so_iadd d_M_store_32 ?_
  refine so_iload_n d_M_store_33 rfl ?_
  refine so_iast d_M_store_34 ?_
  exact so_vret d_M_store_35 rfl
theorem d_N_init_0 : decode prog_3_method_1_code 0 = .ok (.aload_n 0, 1) := by decide +kernel
theorem d_N_init_1 : decode prog_3_method_1_code 1 = .ok (.invokespecial 3, 3) := by decide +kernel
theorem d_N_init_4 : decode prog_3_method_1_code 4 = .ok (.aload_n 0, 1) := by decide +kernel
theorem d_N_init_5 : decode prog_3_method_1_code 5 = .ok (.bipush 8, 2) := by decide +kernel
theorem d_N_init_7 : decode prog_3_method_1_code 7 = .ok (.newarray .long, 2) := by decide +kernel
theorem d_N_init_9 : decode prog_3_method_1_code 9 = .ok (.putfield 9, 3) := by decide +kernel
theorem d_N_init_12 : decode prog_3_method_1_code 12 = .ok (.aload_n 0, 1) := by decide +kernel
theorem d_N_init_13 : decode prog_3_method_1_code 13 = .ok (.bipush 8, 2) := by decide +kernel
theorem d_N_init_15 : decode prog_3_method_1_code 15 = .ok (.newarray .int, 2) := by decide +kernel
theorem d_N_init_17 : decode prog_3_method_1_code 17 = .ok (.putfield 15, 3) := by decide +kernel
theorem d_N_init_20 : decode prog_3_method_1_code 20 = .ok (.aload_n 0, 1) := by decide +kernel
theorem d_N_init_21 : decode prog_3_method_1_code 21 = .ok (.iconst 0, 1) := by decide +kernel
theorem d_N_init_22 : decode prog_3_method_1_code 22 = .ok (.putfield 19, 3) := by decide +kernel
theorem d_N_init_25 : decode prog_3_method_1_code 25 = .ok (.return_, 1) := by decide +kernel
def k_N_init_0 (G : oG) (Post : oP) : oK := o_aload 0 <| o_objInit <| o_aload 0 <| o_iconst 8 <| o_newa 1 (.inr (.inl (fun _ => 0))) <| o_putfR 1 0 <| o_aload 0 <| o_iconst 8 <| o_newa 0 (.inl (fun _ => 0)) <| o_putfR 1 1 <| o_aload 0 <| o_iconst 0 <| o_putfI 1 2 <| o_vret Post
theorem s_N_init_0 {G : oG} {Post : oP} : oS G m_N_init Post 0 (k_N_init_0 G Post) := by
  unfold k_N_init_0
  refine so_aload_n d_N_init_0 rfl ?_
  refine so_objInit w_110 w_85 w_objcode (by decide) (by decide) d_N_init_1 ?_
  refine so_aload_n d_N_init_4 rfl ?_
  refine so_bipush d_N_init_5 rfl ?_
  refine so_newa (ty := .long) rfl w_124 (t := 1) rfl (fun _ q => by cases q) (by decide) rfl (fun _ _ => rfl) d_N_init_7 ?_
  refine so_putfRF cl_1 (k := 0) (by decide) (Or.inr ⟨_, rfl⟩) rfl rfl rfl w_111 d_N_init_9 ?_
  refine so_aload_n d_N_init_12 rfl ?_
  refine so_bipush d_N_init_13 rfl ?_
  refine so_newa (ty := .int) rfl w_104 (t := 0) rfl (fun _ q => by cases q) (by decide) rfl (fun _ _ => rfl) d_N_init_15 ?_
  refine so_putfRF cl_1 (k := 1) (by decide) (Or.inr ⟨_, rfl⟩) rfl rfl rfl w_113 d_N_init_17 ?_
  refine so_aload_n d_N_init_20 rfl ?_
  refine so_iconst d_N_init_21 rfl ?_
  refine so_putfI cl_1 (k := 2) (by decide) rfl rfl w_115 d_N_init_22 ?_
  exact so_vret d_N_init_25 rfl
theorem d_N_find_0 : decode prog_3_method_5_code 0 = .ok (.iconst 0, 1) := by decide +kernel
theorem d_N_find_1 : decode prog_3_method_5_code 1 = .ok (.istore_n 3, 1) := by decide +kernel
theorem d_N_find_2 : decode prog_3_method_5_code 2 = .ok (.iload_n 3, 1) := by decide +kernel
theorem d_N_find_3 : decode prog_3_method_5_code 3 = .ok (.aload_n 0, 1) := by decide +kernel
theorem d_N_find_4 : decode prog_3_method_5_code 4 = .ok (.getfield 19, 3) := by decide +kernel
theorem d_N_find_7 : decode prog_3_method_5_code 7 = .ok (.if_icmp .ge 22, 3) := by decide +kernel
theorem d_N_find_10 : decode prog_3_method_5_code 10 = .ok (.aload_n 0, 1) := by decide +kernel
theorem d_N_find_11 : decode prog_3_method_5_code 11 = .ok (.getfield 9, 3) := by decide +kernel
theorem d_N_find_14 : decode prog_3_method_5_code 14 = .ok (.iload_n 3, 1) := by decide +kernel
theorem d_N_find_15 : decode prog_3_method_5_code 15 = .ok (.laload, 1) := by decide +kernel
theorem d_N_find_16 : decode prog_3_method_5_code 16 = .ok (.lload_n 1, 1) := by decide +kernel
theorem d_N_find_17 : decode prog_3_method_5_code 17 = .ok (.lcmp, 1) := by decide +kernel
theorem d_N_find_18 : decode prog_3_method_5_code 18 = .ok (.ifCond .ne 5, 3) := by decide +kernel
theorem d_N_find_21 : decode prog_3_method_5_code 21 = .ok (.iload_n 3, 1) := by decide +kernel
theorem d_N_find_22 : decode prog_3_method_5_code 22 = .ok (.ireturn, 1) := by decide +kernel
theorem d_N_find_23 : decode prog_3_method_5_code 23 = .ok (.iinc 3 1, 3) := by decide +kernel
theorem d_N_find_26 : decode prog_3_method_5_code 26 = .ok (.goto (-24), 3) := by decide +kernel
theorem d_N_find_29 : decode prog_3_method_5_code 29 = .ok (.iconst (-1), 1) := by decide +kernel
theorem d_N_find_30 : decode prog_3_method_5_code 30 = .ok (.ireturn, 1) := by decide +kernel
def k_N_find_0 (G : oG) (Post : oP) : oK := o_iconst 0 <| o_istore 3 <| o_jmp G m_N_find Post 2 [0, 1, 3]
theorem s_N_find_0 {G : oG} {Post : oP} : oS G m_N_find Post 0 (k_N_find_0 G Post) := by
  unfold k_N_find_0
  refine so_iconst d_N_find_0 rfl ?_
  refine so_istore_n d_N_find_1 rfl (by decide) ?_
  exact so_jmp
def k_N_find_2 (G : oG) (Post : oP) : oK := o_iload 3 <| o_aload 0 <| o_getf 1 2 <| o_icmpge (o_iconst (-1) <| o_iret Post) (o_aload 0 <| o_getf 1 0 <| o_iload 3 <| o_lald <| o_lload 1 <| o_lcmp <| o_ifne (o_iinc 3 1 <| o_jmp G m_N_find Post 2 [0, 1, 3]) (o_iload 3 <| o_iret Post))
theorem s_N_find_2 {G : oG} {Post : oP} : oS G m_N_find Post 2 (k_N_find_2 G Post) := by
  unfold k_N_find_2
  refine so_iload_n d_N_find_2 rfl ?_
  refine so_aload_n d_N_find_3 rfl ?_
  refine so_getf cl_1 (k := 2) (by decide) w_115 d_N_find_4 ?_
  refine so_icmpge d_N_find_7 (tgt := 29) (by decide) ?_ ?_
  · refine so_iconst d_N_find_29 rfl ?_
    exact so_iret d_N_find_30 rfl
  · refine so_aload_n d_N_find_10 rfl ?_
    refine so_getf cl_1 (k := 0) (by decide) w_111 d_N_find_11 ?_
    refine so_iload_n d_N_find_14 rfl ?_
    refine so_lald d_N_find_15 ?_
    refine so_lload_n d_N_find_16 rfl ?_
    refine so_lcmp d_N_find_17 ?_
    refine so_ifne d_N_find_18 (tgt := 23) (by decide) ?_ ?_
    · refine so_iinc d_N_find_23 rfl (by decide) ?_
      refine so_goto d_N_find_26 (tgt := 2) (by decide) ?_
      exact so_jmp
    · refine so_iload_n d_N_find_21 rfl ?_
      exact so_iret d_N_find_22 rfl
theorem d_N_countOf_0 : decode prog_3_method_6_code 0 = .ok (.iconst 0, 1) := by decide +kernel
theorem d_N_countOf_1 : decode prog_3_method_6_code 1 = .ok (.istore_n 2, 1) := by decide +kernel
theorem d_N_countOf_2 : decode prog_3_method_6_code 2 = .ok (.iconst 0, 1) := by decide +kernel
theorem d_N_countOf_3 : decode prog_3_method_6_code 3 = .ok (.istore_n 3, 1) := by decide +kernel
theorem d_N_countOf_4 : decode prog_3_method_6_code 4 = .ok (.iload_n 3, 1) := by decide +kernel
theorem d_N_countOf_5 : decode prog_3_method_6_code 5 = .ok (.aload_n 0, 1) := by decide +kernel
theorem d_N_countOf_6 : decode prog_3_method_6_code 6 = .ok (.getfield 19, 3) := by decide +kernel
theorem d_N_countOf_9 : decode prog_3_method_6_code 9 = .ok (.if_icmp .ge 22, 3) := by decide +kernel
theorem d_N_countOf_12 : decode prog_3_method_6_code 12 = .ok (.aload_n 0, 1) := by decide +kernel
theorem d_N_countOf_13 : decode prog_3_method_6_code 13 = .ok (.getfield 15, 3) := by decide +kernel
theorem d_N_countOf_16 : decode prog_3_method_6_code 16 = .ok (.iload_n 3, 1) := by decide +kernel
theorem d_N_countOf_17 : decode prog_3_method_6_code 17 = .ok (.iaload, 1) := by decide +kernel
theorem d_N_countOf_18 : decode prog_3_method_6_code 18 = .ok (.iload_n 1, 1) := by decide +kernel
theorem d_N_countOf_19 : decode prog_3_method_6_code 19 = .ok (.if_icmp .ne 6, 3) := by decide +kernel
theorem d_N_countOf_22 : decode prog_3_method_6_code 22 = .ok (.iinc 2 1, 3) := by decide +kernel
theorem d_N_countOf_25 : decode prog_3_method_6_code 25 = .ok (.iinc 3 1, 3) := by decide +kernel
theorem d_N_countOf_28 : decode prog_3_method_6_code 28 = .ok (.goto (-24), 3) := by decide +kernel
theorem d_N_countOf_31 : decode prog_3_method_6_code 31 = .ok (.iload_n 2, 1) := by decide +kernel
theorem d_N_countOf_32 : decode prog_3_method_6_code 32 = .ok (.ireturn, 1) := by decide +kernel
def k_N_countOf_0 (G : oG) (Post : oP) : oK := o_iconst 0 <| o_istore 2 <| o_iconst 0 <| o_istore 3 <| o_jmp G m_N_countOf Post 4 [0, 1, 2, 3]
theorem s_N_countOf_0 {G : oG} {Post : oP} : oS G m_N_countOf Post 0 (k_N_countOf_0 G Post) := by
  unfold k_N_countOf_0
  refine so_iconst d_N_countOf_0 rfl ?_
  refine so_istore_n d_N_countOf_1 rfl (by decide) ?_
  refine so_iconst d_N_countOf_2 rfl ?_
  refine so_istore_n d_N_countOf_3 rfl (by decide) ?_
  exact so_jmp
def k_N_countOf_4 (G : oG) (Post : oP) : oK := o_iload 3 <| o_aload 0 <| o_getf 1 2 <| o_icmpge (o_iload 2 <| o_iret Post) (o_aload 0 <| o_getf 1 1 <| o_iload 3 <| o_iald G <| o_iload 1 <| o_icmpne (o_iinc 3 1 <| o_jmp G m_N_countOf Post 4 [0, 1, 2, 3]) (o_iinc 2 1 <| o_iinc 3 1 <| o_jmp G m_N_countOf Post 4 [0, 1, 2, 3]))
theorem s_N_countOf_4 {G : oG} {Post : oP} : oS G m_N_countOf Post 4 (k_N_countOf_4 G Post) := by
  unfold k_N_countOf_4
  refine so_iload_n d_N_countOf_4 rfl ?_
  refine so_aload_n d_N_countOf_5 rfl ?_
  refine so_getf cl_1 (k := 2) (by decide) w_115 d_N_countOf_6 ?_
  refine so_icmpge d_N_countOf_9 (tgt := 31) (by decide) ?_ ?_
  · refine so_iload_n d_N_countOf_31 rfl ?_
    exact so_iret d_N_countOf_32 rfl
  · refine so_aload_n d_N_countOf_12 rfl ?_
    refine so_getf cl_1 (k := 1) (by decide) w_113 d_N_countOf_13 ?_
    refine so_iload_n d_N_countOf_16 rfl ?_
    refine so_iald d_N_countOf_17 ?_
    refine so_iload_n d_N_countOf_18 rfl ?_
    refine so_icmpne d_N_countOf_19 (tgt := 25) (by decide) ?_ ?_
    · refine so_iinc d_N_countOf_25 rfl (by decide) ?_
      refine so_goto d_N_countOf_28 (tgt := 4) (by decide) ?_
      exact so_jmp
    · refine so_iinc d_N_countOf_22 rfl (by decide) ?_
      refine so_iinc d_N_countOf_25 rfl (by decide) ?_
      refine so_goto d_N_countOf_28 (tgt := 4) (by decide) ?_
      exact so_jmp
theorem d_N_isFull_0 : decode prog_3_method_4_code 0 = .ok (.aload_n 0, 1) := by decide +kernel
theorem d_N_isFull_1 : decode prog_3_method_4_code 1 = .ok (.getfield 19, 3) := by decide +kernel
theorem d_N_isFull_4 : decode prog_3_method_4_code 4 = .ok (.bipush 8, 2) := by decide +kernel
theorem d_N_isFull_6 : decode prog_3_method_4_code 6 = .ok (.if_icmp .ne 7, 3) := by decide +kernel
theorem d_N_isFull_9 : decode prog_3_method_4_code 9 = .ok (.iconst 1, 1) := by decide +kernel
theorem d_N_isFull_10 : decode prog_3_method_4_code 10 = .ok (.goto 4, 3) := by decide +kernel
theorem d_N_isFull_13 : decode prog_3_method_4_code 13 = .ok (.iconst 0, 1) := by decide +kernel
theorem d_N_isFull_14 : decode prog_3_method_4_code 14 = .ok (.ireturn, 1) := by decide +kernel
def k_N_isFull_0 (G : oG) (Post : oP) : oK := o_aload 0 <| o_getf 1 2 <| o_iconst 8 <| o_icmpne (o_iconst 0 <| o_zret Post) (o_iconst 1 <| o_zret Post)
theorem s_N_isFull_0 {G : oG} {Post : oP} : oS G m_N_isFull Post 0 (k_N_isFull_0 G Post) := by
  unfold k_N_isFull_0
  refine so_aload_n d_N_isFull_0 rfl ?_
  refine so_getf cl_1 (k := 2) (by decide) w_115 d_N_isFull_1 ?_
  refine so_bipush d_N_isFull_4 rfl ?_
  refine so_icmpne d_N_isFull_6 (tgt := 13) (by decide) ?_ ?_
  · refine so_iconst d_N_isFull_13 rfl ?_
    exact so_zret d_N_isFull_14 rfl
  · refine so_iconst d_N_isFull_9 rfl ?_
    refine so_goto d_N_isFull_10 (tgt := 14) (by decide) ?_
    exact so_zret d_N_isFull_14 rfl
theorem d_N_add_0 : decode prog_3_method_7_code 0 = .ok (.aload_n 0, 1) := by decide +kernel
theorem d_N_add_1 : decode prog_3_method_7_code 1 = .ok (.getfield 19, 3) := by decide +kernel
theorem d_N_add_4 : decode prog_3_method_7_code 4 = .ok (.istore 4, 2) := by decide +kernel
theorem d_N_add_6 : decode prog_3_method_7_code 6 = .ok (.iload 4, 2) := by decide +kernel
theorem d_N_add_8 : decode prog_3_method_7_code 8 = .ok (.ifCond .le 55, 3) := by decide +kernel
theorem d_N_add_11 : decode prog_3_method_7_code 11 = .ok (.aload_n 0, 1) := by decide +kernel
theorem d_N_add_12 : decode prog_3_method_7_code 12 = .ok (.getfield 9, 3) := by decide +kernel
theorem d_N_add_15 : decode prog_3_method_7_code 15 = .ok (.iload 4, 2) := by decide +kernel
theorem d_N_add_17 : decode prog_3_method_7_code 17 = .ok (.iconst 1, 1) := by decide +kernel
theorem d_N_add_18 : decode prog_3_method_7_code 18 = .ok (.isub, 1) := by decide +kernel
theorem d_N_add_19 : decode prog_3_method_7_code 19 = .ok (.laload, 1) := by decide +kernel
theorem d_N_add_20 : decode prog_3_method_7_code 20 = .ok (.lload_n 1, 1) := by decide +kernel
theorem d_N_add_21 : decode prog_3_method_7_code 21 = .ok (.lcmp, 1) := by decide +kernel
theorem d_N_add_22 : decode prog_3_method_7_code 22 = .ok (.ifCond .le 41, 3) := by decide +kernel
theorem d_N_add_25 : decode prog_3_method_7_code 25 = .ok (.aload_n 0, 1) := by decide +kernel
theorem d_N_add_26 : decode prog_3_method_7_code 26 = .ok (.getfield 9, 3) := by decide +kernel
theorem d_N_add_29 : decode prog_3_method_7_code 29 = .ok (.iload 4, 2) := by decide +kernel
theorem d_N_add_31 : decode prog_3_method_7_code 31 = .ok (.aload_n 0, 1) := by decide +kernel
theorem d_N_add_32 : decode prog_3_method_7_code 32 = .ok (.getfield 9, 3) := by decide +kernel
theorem d_N_add_35 : decode prog_3_method_7_code 35 = .ok (.iload 4, 2) := by decide +kernel
theorem d_N_add_37 : decode prog_3_method_7_code 37 = .ok (.iconst 1, 1) := by decide +kernel
theorem d_N_add_38 : decode prog_3_method_7_code 38 = .ok (.isub, 1) := by decide +kernel
theorem d_N_add_39 : decode prog_3_method_7_code 39 = .ok (.laload, 1) := by decide +kernel
theorem d_N_add_40 : decode prog_3_method_7_code 40 = .ok (.lastore, 1) := by decide +kernel
theorem d_N_add_41 : decode prog_3_method_7_code 41 = .ok (.aload_n 0, 1) := by decide +kernel
theorem d_N_add_42 : decode prog_3_method_7_code 42 = .ok (.getfield 15, 3) := by decide +kernel
theorem d_N_add_45 : decode prog_3_method_7_code 45 = .ok (.iload 4, 2) := by decide +kernel
theorem d_N_add_47 : decode prog_3_method_7_code 47 = .ok (.aload_n 0, 1) := by decide +kernel
theorem d_N_add_48 : decode prog_3_method_7_code 48 = .ok (.getfield 15, 3) := by decide +kernel
theorem d_N_add_51 : decode prog_3_method_7_code 51 = .ok (.iload 4, 2) := by decide +kernel
theorem d_N_add_53 : decode prog_3_method_7_code 53 = .ok (.iconst 1, 1) := by decide +kernel
theorem d_N_add_54 : decode prog_3_method_7_code 54 = .ok (.isub, 1) := by decide +kernel
theorem d_N_add_55 : decode prog_3_method_7_code 55 = .ok (.iaload, 1) := by decide +kernel
theorem d_N_add_56 : decode prog_3_method_7_code 56 = .ok (.iastore, 1) := by decide +kernel
theorem d_N_add_57 : decode prog_3_method_7_code 57 = .ok (.iinc 4 (-1), 3) := by decide +kernel
theorem d_N_add_60 : decode prog_3_method_7_code 60 = .ok (.goto (-54), 3) := by decide +kernel
theorem d_N_add_63 : decode prog_3_method_7_code 63 = .ok (.aload_n 0, 1) := by decide +kernel
theorem d_N_add_64 : decode prog_3_method_7_code 64 = .ok (.getfield 9, 3) := by decide +kernel
theorem d_N_add_67 : decode prog_3_method_7_code 67 = .ok (.iload 4, 2) := by decide +kernel
theorem d_N_add_69 : decode prog_3_method_7_code 69 = .ok (.lload_n 1, 1) := by decide +kernel
theorem d_N_add_70 : decode prog_3_method_7_code 70 = .ok (.lastore, 1) := by decide +kernel
theorem d_N_add_71 : decode prog_3_method_7_code 71 = .ok (.aload_n 0, 1) := by decide +kernel
theorem d_N_add_72 : decode prog_3_method_7_code 72 = .ok (.getfield 15, 3) := by decide +kernel
theorem d_N_add_75 : decode prog_3_method_7_code 75 = .ok (.iload 4, 2) := by decide +kernel
theorem d_N_add_77 : decode prog_3_method_7_code 77 = .ok (.iload_n 3, 1) := by decide +kernel
theorem d_N_add_78 : decode prog_3_method_7_code 78 = .ok (.iastore, 1) := by decide +kernel
theorem d_N_add_79 : decode prog_3_method_7_code 79 = .ok (.aload_n 0, 1) := by decide +kernel
theorem d_N_add_80 : decode prog_3_method_7_code 80 = .ok (.dup, 1) := by decide +kernel
theorem d_N_add_81 : decode prog_3_method_7_code 81 = .ok (.getfield 19, 3) := by decide +kernel
theorem d_N_add_84 : decode prog_3_method_7_code 84 = .ok (.iconst 1, 1) := by decide +kernel
theorem d_N_add_85 : decode prog_3_method_7_code 85 = .ok (.iadd, 1) := by decide +kernel
theorem d_N_add_86 : decode prog_3_method_7_code 86 = .ok (.putfield 19, 3) := by decide +kernel
theorem d_N_add_89 : decode prog_3_method_7_code 89 = .ok (.return_, 1) := by decide +kernel
def k_N_add_0 (G : oG) (Post : oP) : oK := o_aload 0 <| o_getf 1 2 <| o_istore 4 <| o_jmp G m_N_add Post 6 [0, 1, 3, 4]
theorem s_N_add_0 {G : oG} {Post : oP} : oS G m_N_add Post 0 (k_N_add_0 G Post) := by
  unfold k_N_add_0
  refine so_aload_n d_N_add_0 rfl ?_
  refine so_getf cl_1 (k := 2) (by decide) w_115 d_N_add_1 ?_
  refine so_istore d_N_add_4 (by decide) ?_
  exact so_jmp
def k_N_add_6 (G : oG) (Post : oP) : oK := o_iload 4 <| o_ifle (o_jmp G m_N_add Post 63 [0, 1, 3, 4]) (o_aload 0 <| o_getf 1 0 <| o_iload 4 <| o_iconst 1 <| o_isub <| o_lald <| o_lload 1 <| o_lcmp <| o_ifle (o_jmp G m_N_add Post 63 [0, 1, 3, 4]) (o_aload 0 <| o_getf 1 0 <| o_iload 4 <| o_aload 0 <| o_getf 1 0 <| o_iload 4 <| o_iconst 1 <| o_isub <| o_lald <| o_last <| o_aload 0 <| o_getf 1 1 <| o_iload 4 <| o_aload 0 <| o_getf 1 1 <| o_iload 4 <| o_iconst 1 <| o_isub <| o_iald G <| o_iast <| o_iinc 4 (-1) <| o_jmp G m_N_add Post 6 [0, 1, 3, 4]))
theorem s_N_add_6 {G : oG} {Post : oP} : oS G m_N_add Post 6 (k_N_add_6 G Post) := by
  unfold k_N_add_6
  refine so_iload d_N_add_6 ?_
  refine so_ifle d_N_add_8 (tgt := 63) (by decide) ?_ ?_
  · exact so_jmp
  · refine so_aload_n d_N_add_11 rfl ?_
    refine so_getf cl_1 (k := 0) (by decide) w_111 d_N_add_12 ?_
    refine so_iload d_N_add_15 ?_
    refine so_iconst d_N_add_17 rfl ?_
    refine so_isub d_N_add_18 ?_
    refine so_lald d_N_add_19 ?_
    refine so_lload_n d_N_add_20 rfl ?_
    refine so_lcmp d_N_add_21 ?_
    refine so_ifle d_N_add_22 (tgt := 63) (by decide) ?_ ?_
    · exact so_jmp
    · refine so_aload_n d_N_add_25 rfl ?_
      refine so_getf cl_1 (k := 0) (by decide) w_111 d_N_add_26 ?_
      refine so_iload d_N_add_29 ?_
      refine so_aload_n d_N_add_31 rfl ?_
      refine so_getf cl_1 (k := 0) (by decide) w_111 d_N_add_32 ?_
      refine so_iload d_N_add_35 ?_
      refine so_iconst d_N_add_37 rfl ?_
      refine so_isub d_N_add_38 ?_
      refine so_lald d_N_add_39 ?_
      refine so_last d_N_add_40 ?_
      refine so_aload_n d_N_add_41 rfl ?_
      refine so_getf cl_1 (k := 1) (by decide) w_113 d_N_add_42 ?_
      refine so_iload d_N_add_45 ?_
      refine so_aload_n d_N_add_47 rfl ?_
      refine so_getf cl_1 (k := 1) (by decide) w_113 d_N_add_48 ?_
      refine so_iload d_N_add_51 ?_
      refine so_iconst d_N_add_53 rfl ?_
      refine so_isub d_N_add_54 ?_
      refine so_iald d_N_add_55 ?_
      refine so_iast d_N_add_56 ?_
      refine so_iinc d_N_add_57 rfl (by decide) ?_
      refine so_goto d_N_add_60 (tgt := 6) (by decide) ?_
      exact so_jmp
def k_N_add_63 (G : oG) (Post : oP) : oK := o_aload 0 <| o_getf 1 0 <| o_iload 4 <| o_lload 1 <| o_last <| o_aload 0 <| o_getf 1 1 <| o_iload 4 <| o_iload 3 <| o_iast <| o_aload 0 <| o_dup <| o_getf 1 2 <| o_iconst 1 <| o_iadd <| o_putfI 1 2 <| o_vret Post
theorem s_N_add_63 {G : oG} {Post : oP} : oS G m_N_add Post 63 (k_N_add_63 G Post) := by
  unfold k_N_add_63
  refine so_aload_n d_N_add_63 rfl ?_
  refine so_getf cl_1 (k := 0) (by decide) w_111 d_N_add_64 ?_
  refine so_iload d_N_add_67 ?_
  refine so_lload_n d_N_add_69 rfl ?_
  refine so_last d_N_add_70 ?_
  refine so_aload_n d_N_add_71 rfl ?_
  refine so_getf cl_1 (k := 1) (by decide) w_113 d_N_add_72 ?_
  refine so_iload d_N_add_75 ?_
  refine so_iload_n d_N_add_77 rfl ?_
  refine so_iast d_N_add_78 ?_
  refine so_aload_n d_N_add_79 rfl ?_
  refine so_dup d_N_add_80 ?_
  refine so_getf cl_1 (k := 2) (by decide) w_115 d_N_add_81 ?_
  refine so_iconst d_N_add_84 rfl ?_
  refine so_iadd d_N_add_85 ?_
  refine so_putfI cl_1 (k := 2) (by decide) rfl rfl w_115 d_N_add_86 ?_
  exact so_vret d_N_add_89 rfl
theorem d_N_remove_0 : decode prog_3_method_8_code 0 = .ok (.aload_n 0, 1) := by decide +kernel
theorem d_N_remove_1 : decode prog_3_method_8_code 1 = .ok (.dup, 1) := by decide +kernel
theorem d_N_remove_2 : decode prog_3_method_8_code 2 = .ok (.getfield 19, 3) := by decide +kernel
theorem d_N_remove_5 : decode prog_3_method_8_code 5 = .ok (.iconst 1, 1) := by decide +kernel
theorem d_N_remove_6 : decode prog_3_method_8_code 6 = .ok (.isub, 1) := by decide +kernel
theorem d_N_remove_7 : decode prog_3_method_8_code 7 = .ok (.putfield 19, 3) := by decide +kernel
theorem d_N_remove_10 : decode prog_3_method_8_code 10 = .ok (.iload_n 1, 1) := by decide +kernel
theorem d_N_remove_11 : decode prog_3_method_8_code 11 = .ok (.istore_n 2, 1) := by decide +kernel
theorem d_N_remove_12 : decode prog_3_method_8_code 12 = .ok (.iload_n 2, 1) := by decide +kernel
theorem d_N_remove_13 : decode prog_3_method_8_code 13 = .ok (.aload_n 0, 1) := by decide +kernel
theorem d_N_remove_14 : decode prog_3_method_8_code 14 = .ok (.getfield 19, 3) := by decide +kernel
theorem d_N_remove_17 : decode prog_3_method_8_code 17 = .ok (.if_icmp .ge 37, 3) := by decide +kernel
theorem d_N_remove_20 : decode prog_3_method_8_code 20 = .ok (.aload_n 0, 1) := by decide +kernel
theorem d_N_remove_21 : decode prog_3_method_8_code 21 = .ok (.getfield 9, 3) := by decide +kernel
theorem d_N_remove_24 : decode prog_3_method_8_code 24 = .ok (.iload_n 2, 1) := by decide +kernel
theorem d_N_remove_25 : decode prog_3_method_8_code 25 = .ok (.aload_n 0, 1) := by decide +kernel
theorem d_N_remove_26 : decode prog_3_method_8_code 26 = .ok (.getfield 9, 3) := by decide +kernel
theorem d_N_remove_29 : decode prog_3_method_8_code 29 = .ok (.iload_n 2, 1) := by decide +kernel
theorem d_N_remove_30 : decode prog_3_method_8_code 30 = .ok (.iconst 1, 1) := by decide +kernel
theorem d_N_remove_31 : decode prog_3_method_8_code 31 = .ok (.iadd, 1) := by decide +kernel
theorem d_N_remove_32 : decode prog_3_method_8_code 32 = .ok (.laload, 1) := by decide +kernel
theorem d_N_remove_33 : decode prog_3_method_8_code 33 = .ok (.lastore, 1) := by decide +kernel
theorem d_N_remove_34 : decode prog_3_method_8_code 34 = .ok (.aload_n 0, 1) := by decide +kernel
theorem d_N_remove_35 : decode prog_3_method_8_code 35 = .ok (.getfield 15, 3) := by decide +kernel
theorem d_N_remove_38 : decode prog_3_method_8_code 38 = .ok (.iload_n 2, 1) := by decide +kernel
theorem d_N_remove_39 : decode prog_3_method_8_code 39 = .ok (.aload_n 0, 1) := by decide +kernel
theorem d_N_remove_40 : decode prog_3_method_8_code 40 = .ok (.getfield 15, 3) := by decide +kernel
theorem d_N_remove_43 : decode prog_3_method_8_code 43 = .ok (.iload_n 2, 1) := by decide +kernel
theorem d_N_remove_44 : decode prog_3_method_8_code 44 = .ok (.iconst 1, 1) := by decide +kernel
theorem d_N_remove_45 : decode prog_3_method_8_code 45 = .ok (.iadd, 1) := by decide +kernel
theorem d_N_remove_46 : decode prog_3_method_8_code 46 = .ok (.iaload, 1) := by decide +kernel
theorem d_N_remove_47 : decode prog_3_method_8_code 47 = .ok (.iastore, 1) := by decide +kernel
theorem d_N_remove_48 : decode prog_3_method_8_code 48 = .ok (.iinc 2 1, 3) := by decide +kernel
theorem d_N_remove_51 : decode prog_3_method_8_code 51 = .ok (.goto (-39), 3) := by decide +kernel
theorem d_N_remove_54 : decode prog_3_method_8_code 54 = .ok (.return_, 1) := by decide +kernel
def k_N_remove_0 (G : oG) (Post : oP) : oK := o_aload 0 <| o_dup <| o_getf 1 2 <| o_iconst 1 <| o_isub <| o_putfI 1 2 <| o_iload 1 <| o_istore 2 <| o_jmp G m_N_remove Post 12 [0, 2]
theorem s_N_remove_0 {G : oG} {Post : oP} : oS G m_N_remove Post 0 (k_N_remove_0 G Post) := by
  unfold k_N_remove_0
  refine so_aload_n d_N_remove_0 rfl ?_
  refine so_dup d_N_remove_1 ?_
  refine so_getf cl_1 (k := 2) (by decide) w_115 d_N_remove_2 ?_
  refine so_iconst d_N_remove_5 rfl ?_
  refine so_isub d_N_remove_6 ?_
  refine so_putfI cl_1 (k := 2) (by decide) rfl rfl w_115 d_N_remove_7 ?_
  refine so_iload_n d_N_remove_10 rfl ?_
  refine so_istore_n d_N_remove_11 rfl (by decide) ?_
  exact so_jmp
def k_N_remove_12 (G : oG) (Post : oP) : oK := o_iload 2 <| o_aload 0 <| o_getf 1 2 <| o_icmpge (o_vret Post) (o_aload 0 <| o_getf 1 0 <| o_iload 2 <| o_aload 0 <| o_getf 1 0 <| o_iload 2 <| o_iconst 1 <| o_iadd <| o_lald <| o_last <| o_aload 0 <| o_getf 1 1 <| o_iload 2 <| o_aload 0 <| o_getf 1 1 <| o_iload 2 <| o_iconst 1 <| o_iadd <| o_iald G <| o_iast <| o_iinc 2 1 <| o_jmp G m_N_remove Post 12 [0, 2])
theorem s_N_remove_12 {G : oG} {Post : oP} : oS G m_N_remove Post 12 (k_N_remove_12 G Post) := by
  unfold k_N_remove_12
  refine so_iload_n d_N_remove_12 rfl ?_
  refine so_aload_n d_N_remove_13 rfl ?_
  refine so_getf cl_1 (k := 2) (by decide) w_115 d_N_remove_14 ?_
  refine so_icmpge d_N_remove_17 (tgt := 54) (by decide) ?_ ?_
  · exact so_vret d_N_remove_54 rfl
  · refine so_aload_n d_N_remove_20 rfl ?_
    refine so_getf cl_1 (k := 0) (by decide) w_111 d_N_remove_21 ?_
    refine so_iload_n d_N_remove_24 rfl ?_
    refine so_aload_n d_N_remove_25 rfl ?_
    refine so_getf cl_1 (k := 0) (by decide) w_111 d_N_remove_26 ?_
    refine so_iload_n d_N_remove_29 rfl ?_
    refine so_iconst d_N_remove_30 rfl ?_
    refine so_iadd d_N_remove_31 ?_
    refine so_lald d_N_remove_32 ?_
    refine so_last d_N_remove_33 ?_
    refine so_aload_n d_N_remove_34 rfl ?_
    refine so_getf cl_1 (k := 1) (by decide) w_113 d_N_remove_35 ?_
    refine so_iload_n d_N_remove_38 rfl ?_
    refine so_aload_n d_N_remove_39 rfl ?_
    refine so_getf cl_1 (k := 1) (by decide) w_113 d_N_remove_40 ?_
    refine so_iload_n d_N_remove_43 rfl ?_
    refine so_iconst d_N_remove_44 rfl ?_
    refine so_iadd d_N_remove_45 ?_
    refine so_iald d_N_remove_46 ?_
    refine so_iast d_N_remove_47 ?_
    refine so_iinc d_N_remove_48 rfl (by decide) ?_
    refine so_goto d_N_remove_51 (tgt := 12) (by decide) ?_
    exact so_jmp
theorem d_N_byteOf_0 : decode prog_3_method_2_code 0 = .ok (.lload_n 0, 1) := by decide +kernel
theorem d_N_byteOf_1 : decode prog_3_method_2_code 1 = .ok (.bipush 8, 2) := by decide +kernel
theorem d_N_byteOf_3 : decode prog_3_method_2_code 3 = .ok (.bipush 6, 2) := by decide +kernel
theorem d_N_byteOf_5 : decode prog_3_method_2_code 5 = .ok (.iload_n 2, 1) := by decide +kernel
theorem d_N_byteOf_6 : decode prog_3_method_2_code 6 = .ok (.isub, 1) := by decide +kernel
theorem d_N_byteOf_7 : decode prog_3_method_2_code 7 = .ok (.imul, 1) := by decide +kernel
theorem d_N_byteOf_8 : decode prog_3_method_2_code 8 = .ok (.lushr, 1) := by decide +kernel
theorem d_N_byteOf_9 : decode prog_3_method_2_code 9 = .ok (.l2i, 1) := by decide +kernel
theorem d_N_byteOf_10 : decode prog_3_method_2_code 10 = .ok (.sipush 255, 3) := by decide +kernel
theorem d_N_byteOf_13 : decode prog_3_method_2_code 13 = .ok (.iand, 1) := by decide +kernel
theorem d_N_byteOf_14 : decode prog_3_method_2_code 14 = .ok (.ireturn, 1) := by decide +kernel
def k_N_byteOf_0 (G : oG) (Post : oP) : oK := o_lload 0 <| o_iconst 8 <| o_iconst 6 <| o_iload 2 <| o_isub <| o_imul <| o_lushr <| o_l2i <| o_iconst 255 <| o_iand <| o_iret Post
theorem s_N_byteOf_0 {G : oG} {Post : oP} : oS G m_N_byteOf Post 0 (k_N_byteOf_0 G Post) := by
  unfold k_N_byteOf_0
  refine so_lload_n d_N_byteOf_0 rfl ?_
  refine so_bipush d_N_byteOf_1 rfl ?_
  refine so_bipush d_N_byteOf_3 rfl ?_
  refine so_iload_n d_N_byteOf_5 rfl ?_
  refine so_isub d_N_byteOf_6 ?_
  refine so_imul d_N_byteOf_7 ?_
  refine so_lushr d_N_byteOf_8 ?_
  refine so_l2i d_N_byteOf_9 ?_
  refine so_sipush d_N_byteOf_10 rfl ?_
  refine so_iand d_N_byteOf_13 ?_
  exact so_iret d_N_byteOf_14 rfl
theorem d_N_lengthOf_0 : decode prog_3_method_3_code 0 = .ok (.iconst 0, 1) := by decide +kernel
theorem d_N_lengthOf_1 : decode prog_3_method_3_code 1 = .ok (.istore_n 2, 1) := by decide +kernel
theorem d_N_lengthOf_2 : decode prog_3_method_3_code 2 = .ok (.iload_n 2, 1) := by decide +kernel
theorem d_N_lengthOf_3 : decode prog_3_method_3_code 3 = .ok (.bipush 7, 2) := by decide +kernel
theorem d_N_lengthOf_5 : decode prog_3_method_3_code 5 = .ok (.if_icmp .ge 17, 3) := by decide +kernel
theorem d_N_lengthOf_8 : decode prog_3_method_3_code 8 = .ok (.lload_n 0, 1) := by decide +kernel
theorem d_N_lengthOf_9 : decode prog_3_method_3_code 9 = .ok (.iload_n 2, 1) := by decide +kernel
theorem d_N_lengthOf_10 : decode prog_3_method_3_code 10 = .ok (.invokestatic 23, 3) := by decide +kernel
theorem d_N_lengthOf_13 : decode prog_3_method_3_code 13 = .ok (.ifCond .eq 9, 3) := by decide +kernel
theorem d_N_lengthOf_16 : decode prog_3_method_3_code 16 = .ok (.iinc 2 1, 3) := by decide +kernel
theorem d_N_lengthOf_19 : decode prog_3_method_3_code 19 = .ok (.goto (-17), 3) := by decide +kernel
theorem d_N_lengthOf_22 : decode prog_3_method_3_code 22 = .ok (.iload_n 2, 1) := by decide +kernel
theorem d_N_lengthOf_23 : decode prog_3_method_3_code 23 = .ok (.ireturn, 1) := by decide +kernel
def k_N_lengthOf_0 (G : oG) (Post : oP) : oK := o_iconst 0 <| o_istore 2 <| o_jmp G m_N_lengthOf Post 2 [0, 2]
theorem s_N_lengthOf_0 {G : oG} {Post : oP} : oS G m_N_lengthOf Post 0 (k_N_lengthOf_0 G Post) := by
  unfold k_N_lengthOf_0
  refine so_iconst d_N_lengthOf_0 rfl ?_
  refine so_istore_n d_N_lengthOf_1 rfl (by decide) ?_
  exact so_jmp
def k_N_lengthOf_2 (G : oG) (Post : oP) : oK := o_iload 2 <| o_iconst 7 <| o_icmpge (o_iload 2 <| o_iret Post) (o_lload 0 <| o_iload 2 <| o_callS G m_N_byteOf 2 <| o_jmp G m_N_lengthOf Post 13 [0, 2])
theorem s_N_lengthOf_2 {G : oG} {Post : oP} : oS G m_N_lengthOf Post 2 (k_N_lengthOf_2 G Post) := by
  unfold k_N_lengthOf_2
  refine so_iload_n d_N_lengthOf_2 rfl ?_
  refine so_bipush d_N_lengthOf_3 rfl ?_
  refine so_icmpge d_N_lengthOf_5 (tgt := 22) (by decide) ?_ ?_
  · refine so_iload_n d_N_lengthOf_22 rfl ?_
    exact so_iret d_N_lengthOf_23 rfl
  · refine so_lload_n d_N_lengthOf_8 rfl ?_
    refine so_iload_n d_N_lengthOf_9 rfl ?_
    refine so_callS f_N_byteOf w_498 w_497 (by decide) (by decide) d_N_lengthOf_10 ?_
    exact so_jmp
def k_N_lengthOf_13 (G : oG) (Post : oP) : oK := o_ifeq (o_iload 2 <| o_iret Post) (o_iinc 2 1 <| o_jmp G m_N_lengthOf Post 2 [0, 2])
theorem s_N_lengthOf_13 {G : oG} {Post : oP} : oS G m_N_lengthOf Post 13 (k_N_lengthOf_13 G Post) := by
  unfold k_N_lengthOf_13
  refine so_ifeq d_N_lengthOf_13 (tgt := 22) (by decide) ?_ ?_
  · refine so_iload_n d_N_lengthOf_22 rfl ?_
    exact so_iret d_N_lengthOf_23 rfl
  · refine so_iinc d_N_lengthOf_16 rfl (by decide) ?_
    refine so_goto d_N_lengthOf_19 (tgt := 2) (by decide) ?_
    exact so_jmp
theorem d_R_init_0 : decode prog_6_method_1_code 0 = .ok (.aload_n 0, 1) := by decide +kernel
theorem d_R_init_1 : decode prog_6_method_1_code 1 = .ok (.invokespecial 3, 3) := by decide +kernel
theorem d_R_init_4 : decode prog_6_method_1_code 4 = .ok (.aload_n 0, 1) := by decide +kernel
theorem d_R_init_5 : decode prog_6_method_1_code 5 = .ok (.iconst 4, 1) := by decide +kernel
theorem d_R_init_6 : decode prog_6_method_1_code 6 = .ok (.newarray .int, 2) := by decide +kernel
theorem d_R_init_8 : decode prog_6_method_1_code 8 = .ok (.putfield 9, 3) := by decide +kernel
theorem d_R_init_11 : decode prog_6_method_1_code 11 = .ok (.aload_n 0, 1) := by decide +kernel
theorem d_R_init_12 : decode prog_6_method_1_code 12 = .ok (.iconst 4, 1) := by decide +kernel
theorem d_R_init_13 : decode prog_6_method_1_code 13 = .ok (.newarray .int, 2) := by decide +kernel
theorem d_R_init_15 : decode prog_6_method_1_code 15 = .ok (.putfield 15, 3) := by decide +kernel
theorem d_R_init_18 : decode prog_6_method_1_code 18 = .ok (.aload_n 0, 1) := by decide +kernel
theorem d_R_init_19 : decode prog_6_method_1_code 19 = .ok (.iconst 0, 1) := by decide +kernel
theorem d_R_init_20 : decode prog_6_method_1_code 20 = .ok (.putfield 18, 3) := by decide +kernel
theorem d_R_init_23 : decode prog_6_method_1_code 23 = .ok (.return_, 1) := by decide +kernel
def k_R_init_0 (G : oG) (Post : oP) : oK := o_aload 0 <| o_objInit <| o_aload 0 <| o_iconst 4 <| o_newa 0 (.inl (fun _ => 0)) <| o_putfR 4 0 <| o_aload 0 <| o_iconst 4 <| o_newa 0 (.inl (fun _ => 0)) <| o_putfR 4 1 <| o_aload 0 <| o_iconst 0 <| o_putfI 4 2 <| o_vret Post
theorem s_R_init_0 {G : oG} {Post : oP} : oS G m_R_init Post 0 (k_R_init_0 G Post) := by
  unfold k_R_init_0
  refine so_aload_n d_R_init_0 rfl ?_
  refine so_objInit w_159 w_85 w_objcode (by decide) (by decide) d_R_init_1 ?_
  refine so_aload_n d_R_init_4 rfl ?_
  refine so_iconst d_R_init_5 rfl ?_
  refine so_newa (ty := .int) rfl w_104 (t := 0) rfl (fun _ q => by cases q) (by decide) rfl (fun _ _ => rfl) d_R_init_6 ?_
  refine so_putfRF cl_4 (k := 0) (by decide) (Or.inr ⟨_, rfl⟩) rfl rfl rfl w_160 d_R_init_8 ?_
  refine so_aload_n d_R_init_11 rfl ?_
  refine so_iconst d_R_init_12 rfl ?_
  refine so_newa (ty := .int) rfl w_104 (t := 0) rfl (fun _ q => by cases q) (by decide) rfl (fun _ _ => rfl) d_R_init_13 ?_
  refine so_putfRF cl_4 (k := 1) (by decide) (Or.inr ⟨_, rfl⟩) rfl rfl rfl w_161 d_R_init_15 ?_
  refine so_aload_n d_R_init_18 rfl ?_
  refine so_iconst d_R_init_19 rfl ?_
  refine so_putfI cl_4 (k := 2) (by decide) rfl rfl w_162 d_R_init_20 ?_
  exact so_vret d_R_init_23 rfl
theorem d_R_clear_0 : decode prog_6_method_2_code 0 = .ok (.aload_n 0, 1) := by decide +kernel
theorem d_R_clear_1 : decode prog_6_method_2_code 1 = .ok (.iconst 0, 1) := by decide +kernel
theorem d_R_clear_2 : decode prog_6_method_2_code 2 = .ok (.putfield 18, 3) := by decide +kernel
theorem d_R_clear_5 : decode prog_6_method_2_code 5 = .ok (.return_, 1) := by decide +kernel
def k_R_clear_0 (G : oG) (Post : oP) : oK := o_aload 0 <| o_iconst 0 <| o_putfI 4 2 <| o_vret Post
theorem s_R_clear_0 {G : oG} {Post : oP} : oS G m_R_clear Post 0 (k_R_clear_0 G Post) := by
  unfold k_R_clear_0
  refine so_aload_n d_R_clear_0 rfl ?_
  refine so_iconst d_R_clear_1 rfl ?_
  refine so_putfI cl_4 (k := 2) (by decide) rfl rfl w_162 d_R_clear_2 ?_
  exact so_vret d_R_clear_5 rfl
theorem d_R_add_0 : decode prog_6_method_3_code 0 = .ok (.aload_n 0, 1) := by decide +kernel
theorem d_R_add_1 : decode prog_6_method_3_code 1 = .ok (.getfield 9, 3) := by decide +kernel
theorem d_R_add_4 : decode prog_6_method_3_code 4 = .ok (.aload_n 0, 1) := by decide +kernel
theorem d_R_add_5 : decode prog_6_method_3_code 5 = .ok (.getfield 18, 3) := by decide +kernel
theorem d_R_add_8 : decode prog_6_method_3_code 8 = .ok (.iload_n 1, 1) := by decide +kernel
theorem d_R_add_9 : decode prog_6_method_3_code 9 = .ok (.iastore, 1) := by decide +kernel
theorem d_R_add_10 : decode prog_6_method_3_code 10 = .ok (.aload_n 0, 1) := by decide +kernel
theorem d_R_add_11 : decode prog_6_method_3_code 11 = .ok (.getfield 15, 3) := by decide +kernel
theorem d_R_add_14 : decode prog_6_method_3_code 14 = .ok (.aload_n 0, 1) := by decide +kernel
theorem d_R_add_15 : decode prog_6_method_3_code 15 = .ok (.getfield 18, 3) := by decide +kernel
theorem d_R_add_18 : decode prog_6_method_3_code 18 = .ok (.iload_n 2, 1) := by decide +kernel
theorem d_R_add_19 : decode prog_6_method_3_code 19 = .ok (.iastore, 1) := by decide +kernel
theorem d_R_add_20 : decode prog_6_method_3_code 20 = .ok (.aload_n 0, 1) := by decide +kernel
theorem d_R_add_21 : decode prog_6_method_3_code 21 = .ok (.dup, 1) := by decide +kernel
theorem d_R_add_22 : decode prog_6_method_3_code 22 = .ok (.getfield 18, 3) := by decide +kernel
theorem d_R_add_25 : decode prog_6_method_3_code 25 = .ok (.iconst 1, 1) := by decide +kernel
theorem d_R_add_26 : decode prog_6_method_3_code 26 = .ok (.iadd, 1) := by decide +kernel
theorem d_R_add_27 : decode prog_6_method_3_code 27 = .ok (.putfield 18, 3) := by decide +kernel
theorem d_R_add_30 : decode prog_6_method_3_code 30 = .ok (.return_, 1) := by decide +kernel
def k_R_add_0 (G : oG) (Post : oP) : oK := o_aload 0 <| o_getf 4 0 <| o_aload 0 <| o_getf 4 2 <| o_iload 1 <| o_iast <| o_aload 0 <| o_getf 4 1 <| o_aload 0 <| o_getf 4 2 <| o_iload 2 <| o_iast <| o_aload 0 <| o_dup <| o_getf 4 2 <| o_iconst 1 <| o_iadd <| o_putfI 4 2 <| o_vret Post
theorem s_R_add_0 {G : oG} {Post : oP} : oS G m_R_add Post 0 (k_R_add_0 G Post) := by
  unfold k_R_add_0
  refine so_aload_n d_R_add_0 rfl ?_
  refine so_getf cl_4 (k := 0) (by decide) w_160 d_R_add_1 ?_
  refine so_aload_n d_R_add_4 rfl ?_
  refine so_getf cl_4 (k := 2) (by decide) w_162 d_R_add_5 ?_
  refine so_iload_n d_R_add_8 rfl ?_
  refine so_iast d_R_add_9 ?_
  refine so_aload_n d_R_add_10 rfl ?_
  refine so_getf cl_4 (k := 1) (by decide) w_161 d_R_add_11 ?_
  refine so_aload_n d_R_add_14 rfl ?_
  refine so_getf cl_4 (k := 2) (by decide) w_162 d_R_add_15 ?_
  refine so_iload_n d_R_add_18 rfl ?_
  refine so_iast d_R_add_19 ?_
  refine so_aload_n d_R_add_20 rfl ?_
  refine so_dup d_R_add_21 ?_
  refine so_getf cl_4 (k := 2) (by decide) w_162 d_R_add_22 ?_
  refine so_iconst d_R_add_25 rfl ?_
  refine so_iadd d_R_add_26 ?_
  refine so_putfI cl_4 (k := 2) (by decide) rfl rfl w_162 d_R_add_27 ?_
  exact so_vret d_R_add_30 rfl
theorem d_R_setOnly_0 : decode prog_6_method_4_code 0 = .ok (.aload_n 0, 1) := by decide +kernel
theorem d_R_setOnly_1 : decode prog_6_method_4_code 1 = .ok (.invokevirtual 22, 3) := by decide +kernel
theorem d_R_setOnly_4 : decode prog_6_method_4_code 4 = .ok (.aload_n 0, 1) := by decide +kernel
theorem d_R_setOnly_5 : decode prog_6_method_4_code 5 = .ok (.iload_n 1, 1) := by decide +kernel
theorem d_R_setOnly_6 : decode prog_6_method_4_code 6 = .ok (.iload_n 2, 1) := by decide +kernel
theorem d_R_setOnly_7 : decode prog_6_method_4_code 7 = .ok (.invokevirtual 25, 3) := by decide +kernel
theorem d_R_setOnly_10 : decode prog_6_method_4_code 10 = .ok (.return_, 1) := by decide +kernel
def k_R_setOnly_0 (G : oG) (Post : oP) : oK := o_aload 0 <| o_callV G 4 m_R_clear 0 <| o_jmp G m_R_setOnly Post 4 [0, 1, 2]
theorem s_R_setOnly_0 {G : oG} {Post : oP} : oS G m_R_setOnly Post 0 (k_R_setOnly_0 G Post) := by
  unfold k_R_setOnly_0
  refine so_aload_n d_R_setOnly_0 rfl ?_
  refine so_callV cl_4 f_R_clear w_371 w_372 w_370 (by decide) (by decide) d_R_setOnly_1 ?_
  exact so_jmp
def k_R_setOnly_4 (G : oG) (Post : oP) : oK := o_aload 0 <| o_iload 1 <| o_iload 2 <| o_callV G 4 m_R_add 2 <| o_jmp G m_R_setOnly Post 10 []
theorem s_R_setOnly_4 {G : oG} {Post : oP} : oS G m_R_setOnly Post 4 (k_R_setOnly_4 G Post) := by
  unfold k_R_setOnly_4
  refine so_aload_n d_R_setOnly_4 rfl ?_
  refine so_iload_n d_R_setOnly_5 rfl ?_
  refine so_iload_n d_R_setOnly_6 rfl ?_
  refine so_callV cl_4 f_R_add w_375 w_376 w_374 (by decide) (by decide) d_R_setOnly_7 ?_
  exact so_jmp
def k_R_setOnly_10 (G : oG) (Post : oP) : oK := o_vret Post
theorem s_R_setOnly_10 {G : oG} {Post : oP} : oS G m_R_setOnly Post 10 (k_R_setOnly_10 G Post) := by
  unfold k_R_setOnly_10
  exact so_vret d_R_setOnly_10 rfl
theorem d_R_total_0 : decode prog_6_method_5_code 0 = .ok (.iconst 0, 1) := by decide +kernel
theorem d_R_total_1 : decode prog_6_method_5_code 1 = .ok (.istore_n 1, 1) := by decide +kernel
theorem d_R_total_2 : decode prog_6_method_5_code 2 = .ok (.iconst 0, 1) := by decide +kernel
theorem d_R_total_3 : decode prog_6_method_5_code 3 = .ok (.istore_n 2, 1) := by decide +kernel
theorem d_R_total_4 : decode prog_6_method_5_code 4 = .ok (.iload_n 2, 1) := by decide +kernel
theorem d_R_total_5 : decode prog_6_method_5_code 5 = .ok (.aload_n 0, 1) := by decide +kernel
theorem d_R_total_6 : decode prog_6_method_5_code 6 = .ok (.getfield 18, 3) := by decide +kernel
theorem d_R_total_9 : decode prog_6_method_5_code 9 = .ok (.if_icmp .ge 18, 3) := by decide +kernel
theorem d_R_total_12 : decode prog_6_method_5_code 12 = .ok (.iload_n 1, 1) := by decide +kernel
theorem d_R_total_13 : decode prog_6_method_5_code 13 = .ok (.aload_n 0, 1) := by decide +kernel
theorem d_R_total_14 : decode prog_6_method_5_code 14 = .ok (.getfield 15, 3) := by decide +kernel
theorem d_R_total_17 : decode prog_6_method_5_code 17 = .ok (.iload_n 2, 1) := by decide +kernel
theorem d_R_total_18 : decode prog_6_method_5_code 18 = .ok (.iaload, 1) := by decide +kernel
theorem d_R_total_19 : decode prog_6_method_5_code 19 = .ok (.iadd, 1) := by decide +kernel
theorem d_R_total_20 : decode prog_6_method_5_code 20 = .ok (.istore_n 1, 1) := by decide +kernel
theorem d_R_total_21 : decode prog_6_method_5_code 21 = .ok (.iinc 2 1, 3) := by decide +kernel
theorem d_R_total_24 : decode prog_6_method_5_code 24 = .ok (.goto (-20), 3) := by decide +kernel
theorem d_R_total_27 : decode prog_6_method_5_code 27 = .ok (.iload_n 1, 1) := by decide +kernel
theorem d_R_total_28 : decode prog_6_method_5_code 28 = .ok (.ireturn, 1) := by decide +kernel
def k_R_total_0 (G : oG) (Post : oP) : oK := o_iconst 0 <| o_istore 1 <| o_iconst 0 <| o_istore 2 <| o_jmp G m_R_total Post 4 [0, 1, 2]
theorem s_R_total_0 {G : oG} {Post : oP} : oS G m_R_total Post 0 (k_R_total_0 G Post) := by
  unfold k_R_total_0
  refine so_iconst d_R_total_0 rfl ?_
  refine so_istore_n d_R_total_1 rfl (by decide) ?_
  refine so_iconst d_R_total_2 rfl ?_
  refine so_istore_n d_R_total_3 rfl (by decide) ?_
  exact so_jmp
def k_R_total_4 (G : oG) (Post : oP) : oK := o_iload 2 <| o_aload 0 <| o_getf 4 2 <| o_icmpge (o_iload 1 <| o_iret Post) (o_iload 1 <| o_aload 0 <| o_getf 4 1 <| o_iload 2 <| o_iald G <| o_iadd <| o_istore 1 <| o_iinc 2 1 <| o_jmp G m_R_total Post 4 [0, 1, 2])
theorem s_R_total_4 {G : oG} {Post : oP} : oS G m_R_total Post 4 (k_R_total_4 G Post) := by
  unfold k_R_total_4
  refine so_iload_n d_R_total_4 rfl ?_
  refine so_aload_n d_R_total_5 rfl ?_
  refine so_getf cl_4 (k := 2) (by decide) w_162 d_R_total_6 ?_
  refine so_icmpge d_R_total_9 (tgt := 27) (by decide) ?_ ?_
  · refine so_iload_n d_R_total_27 rfl ?_
    exact so_iret d_R_total_28 rfl
  · refine so_iload_n d_R_total_12 rfl ?_
    refine so_aload_n d_R_total_13 rfl ?_
    refine so_getf cl_4 (k := 1) (by decide) w_161 d_R_total_14 ?_
    refine so_iload_n d_R_total_17 rfl ?_
    refine so_iald d_R_total_18 ?_
    refine so_iadd d_R_total_19 ?_
    refine so_istore_n d_R_total_20 rfl (by decide) ?_
    refine so_iinc d_R_total_21 rfl (by decide) ?_
    refine so_goto d_R_total_24 (tgt := 4) (by decide) ?_
    exact so_jmp
theorem d_R_addressOf_0 : decode prog_6_method_6_code 0 = .ok (.iload_n 1, 1) := by decide +kernel
theorem d_R_addressOf_1 : decode prog_6_method_6_code 1 = .ok (.istore_n 2, 1) := by decide +kernel
theorem d_R_addressOf_2 : decode prog_6_method_6_code 2 = .ok (.iconst 0, 1) := by decide +kernel
theorem d_R_addressOf_3 : decode prog_6_method_6_code 3 = .ok (.istore_n 3, 1) := by decide +kernel
theorem d_R_addressOf_4 : decode prog_6_method_6_code 4 = .ok (.iload_n 3, 1) := by decide +kernel
theorem d_R_addressOf_5 : decode prog_6_method_6_code 5 = .ok (.aload_n 0, 1) := by decide +kernel
theorem d_R_addressOf_6 : decode prog_6_method_6_code 6 = .ok (.getfield 18, 3) := by decide +kernel
theorem d_R_addressOf_9 : decode prog_6_method_6_code 9 = .ok (.iconst 1, 1) := by decide +kernel
theorem d_R_addressOf_10 : decode prog_6_method_6_code 10 = .ok (.isub, 1) := by decide +kernel
theorem d_R_addressOf_11 : decode prog_6_method_6_code 11 = .ok (.if_icmp .ge 28, 3) := by decide +kernel
theorem d_R_addressOf_14 : decode prog_6_method_6_code 14 = .ok (.iload_n 2, 1) := by decide +kernel
theorem d_R_addressOf_15 : decode prog_6_method_6_code 15 = .ok (.aload_n 0, 1) := by decide +kernel
theorem d_R_addressOf_16 : decode prog_6_method_6_code 16 = .ok (.getfield 15, 3) := by decide +kernel
theorem d_R_addressOf_19 : decode prog_6_method_6_code 19 = .ok (.iload_n 3, 1) := by decide +kernel
theorem d_R_addressOf_20 : decode prog_6_method_6_code 20 = .ok (.iaload, 1) := by decide +kernel
theorem d_R_addressOf_21 : decode prog_6_method_6_code 21 = .ok (.if_icmp .lt 18, 3) := by decide +kernel
theorem d_R_addressOf_24 : decode prog_6_method_6_code 24 = .ok (.iload_n 2, 1) := by decide +kernel
theorem d_R_addressOf_25 : decode prog_6_method_6_code 25 = .ok (.aload_n 0, 1) := by decide +kernel
theorem d_R_addressOf_26 : decode prog_6_method_6_code 26 = .ok (.getfield 15, 3) := by decide +kernel
theorem d_R_addressOf_29 : decode prog_6_method_6_code 29 = .ok (.iload_n 3, 1) := by decide +kernel
theorem d_R_addressOf_30 : decode prog_6_method_6_code 30 = .ok (.iaload, 1) := by decide +kernel
theorem d_R_addressOf_31 : decode prog_6_method_6_code 31 = .ok (.isub, 1) := by decide +kernel
theorem d_R_addressOf_32 : decode prog_6_method_6_code 32 = .ok (.istore_n 2, 1) := by decide +kernel
theorem d_R_addressOf_33 : decode prog_6_method_6_code 33 = .ok (.iinc 3 1, 3) := by decide +kernel
theorem d_R_addressOf_36 : decode prog_6_method_6_code 36 = .ok (.goto (-32), 3) := by decide +kernel
theorem d_R_addressOf_39 : decode prog_6_method_6_code 39 = .ok (.aload_n 0, 1) := by decide +kernel
theorem d_R_addressOf_40 : decode prog_6_method_6_code 40 = .ok (.getfield 9, 3) := by decide +kernel
theorem d_R_addressOf_43 : decode prog_6_method_6_code 43 = .ok (.iload_n 3, 1) := by decide +kernel
theorem d_R_addressOf_44 : decode prog_6_method_6_code 44 = .ok (.iaload, 1) := by decide +kernel
theorem d_R_addressOf_45 : decode prog_6_method_6_code 45 = .ok (.iload_n 2, 1) := by decide +kernel
theorem d_R_addressOf_46 : decode prog_6_method_6_code 46 = .ok (.iadd, 1) := by decide +kernel
theorem d_R_addressOf_47 : decode prog_6_method_6_code 47 = .ok (.ireturn, 1) := by decide +kernel
def k_R_addressOf_0 (G : oG) (Post : oP) : oK := o_iload 1 <| o_istore 2 <| o_iconst 0 <| o_istore 3 <| o_jmp G m_R_addressOf Post 4 [0, 2, 3]
theorem s_R_addressOf_0 {G : oG} {Post : oP} : oS G m_R_addressOf Post 0 (k_R_addressOf_0 G Post) := by
  unfold k_R_addressOf_0
  refine so_iload_n d_R_addressOf_0 rfl ?_
  refine so_istore_n d_R_addressOf_1 rfl (by decide) ?_
  refine so_iconst d_R_addressOf_2 rfl ?_
  refine so_istore_n d_R_addressOf_3 rfl (by decide) ?_
  exact so_jmp
def k_R_addressOf_4 (G : oG) (Post : oP) : oK := o_iload 3 <| o_aload 0 <| o_getf 4 2 <| o_iconst 1 <| o_isub <| o_icmpge (o_aload 0 <| o_getf 4 0 <| o_iload 3 <| o_iald G <| o_iload 2 <| o_iadd <| o_iret Post) (o_iload 2 <| o_aload 0 <| o_getf 4 1 <| o_iload 3 <| o_iald G <| o_icmplt (o_aload 0 <| o_getf 4 0 <| o_iload 3 <| o_iald G <| o_iload 2 <| o_iadd <| o_iret Post) (o_iload 2 <| o_aload 0 <| o_getf 4 1 <| o_iload 3 <| o_iald G <| o_isub <| o_istore 2 <| o_iinc 3 1 <| o_jmp G m_R_addressOf Post 4 [0, 2, 3]))
theorem s_R_addressOf_4 {G : oG} {Post : oP} : oS G m_R_addressOf Post 4 (k_R_addressOf_4 G Post) := by
  unfold k_R_addressOf_4
  refine so_iload_n d_R_addressOf_4 rfl ?_
  refine so_aload_n d_R_addressOf_5 rfl ?_
  refine so_getf cl_4 (k := 2) (by decide) w_162 d_R_addressOf_6 ?_
  refine so_iconst d_R_addressOf_9 rfl ?_
  refine so_isub d_R_addressOf_10 ?_
  refine so_icmpge d_R_addressOf_11 (tgt := 39) (by decide) ?_ ?_
  · refine so_aload_n d_R_addressOf_39 rfl ?_
    refine so_getf cl_4 (k := 0) (by decide) w_160 d_R_addressOf_40 ?_
    refine so_iload_n d_R_addressOf_43 rfl ?_
    refine so_iald d_R_addressOf_44 ?_
    refine so_iload_n d_R_addressOf_45 rfl ?_
    refine so_iadd d_R_addressOf_46 ?_
    exact so_iret d_R_addressOf_47 rfl
  · refine so_iload_n d_R_addressOf_14 rfl ?_
    refine so_aload_n d_R_addressOf_15 rfl ?_
    refine so_getf cl_4 (k := 1) (by decide) w_161 d_R_addressOf_16 ?_
    refine so_iload_n d_R_addressOf_19 rfl ?_
    refine so_iald d_R_addressOf_20 ?_
    refine so_icmplt d_R_addressOf_21 (tgt := 39) (by decide) ?_ ?_
    · refine so_aload_n d_R_addressOf_39 rfl ?_
      refine so_getf cl_4 (k := 0) (by decide) w_160 d_R_addressOf_40 ?_
      refine so_iload_n d_R_addressOf_43 rfl ?_
      refine so_iald d_R_addressOf_44 ?_
      refine so_iload_n d_R_addressOf_45 rfl ?_
      refine so_iadd d_R_addressOf_46 ?_
      exact so_iret d_R_addressOf_47 rfl
    · refine so_iload_n d_R_addressOf_24 rfl ?_
      refine so_aload_n d_R_addressOf_25 rfl ?_
      refine so_getf cl_4 (k := 1) (by decide) w_161 d_R_addressOf_26 ?_
      refine so_iload_n d_R_addressOf_29 rfl ?_
      refine so_iald d_R_addressOf_30 ?_
      refine so_isub d_R_addressOf_31 ?_
      refine so_istore_n d_R_addressOf_32 rfl (by decide) ?_
      refine so_iinc d_R_addressOf_33 rfl (by decide) ?_
      refine so_goto d_R_addressOf_36 (tgt := 4) (by decide) ?_
      exact so_jmp
theorem d_F_init_0 : decode prog_7_method_1_code 0 = .ok (.aload_n 0, 1) := by decide +kernel
theorem d_F_init_1 : decode prog_7_method_1_code 1 = .ok (.invokespecial 3, 3) := by decide +kernel
theorem d_F_init_4 : decode prog_7_method_1_code 4 = .ok (.aload_n 0, 1) := by decide +kernel
theorem d_F_init_5 : decode prog_7_method_1_code 5 = .ok (.bipush 24, 2) := by decide +kernel
theorem d_F_init_7 : decode prog_7_method_1_code 7 = .ok (.newarray .int, 2) := by decide +kernel
theorem d_F_init_9 : decode prog_7_method_1_code 9 = .ok (.putfield 9, 3) := by decide +kernel
theorem d_F_init_12 : decode prog_7_method_1_code 12 = .ok (.aload_n 0, 1) := by decide +kernel
theorem d_F_init_13 : decode prog_7_method_1_code 13 = .ok (.iconst 0, 1) := by decide +kernel
theorem d_F_init_14 : decode prog_7_method_1_code 14 = .ok (.putfield 15, 3) := by decide +kernel
theorem d_F_init_17 : decode prog_7_method_1_code 17 = .ok (.return_, 1) := by decide +kernel
def k_F_init_0 (G : oG) (Post : oP) : oK := o_aload 0 <| o_objInit <| o_aload 0 <| o_iconst 24 <| o_newa 0 (.inl (fun _ => 0)) <| o_putfR 5 0 <| o_aload 0 <| o_iconst 0 <| o_putfI 5 1 <| o_vret Post
theorem s_F_init_0 {G : oG} {Post : oP} : oS G m_F_init Post 0 (k_F_init_0 G Post) := by
  unfold k_F_init_0
  refine so_aload_n d_F_init_0 rfl ?_
  refine so_objInit w_174 w_85 w_objcode (by decide) (by decide) d_F_init_1 ?_
  refine so_aload_n d_F_init_4 rfl ?_
  refine so_bipush d_F_init_5 rfl ?_
  refine so_newa (ty := .int) rfl w_104 (t := 0) rfl (fun _ q => by cases q) (by decide) rfl (fun _ _ => rfl) d_F_init_7 ?_
  refine so_putfRF cl_5 (k := 0) (by decide) (Or.inr ⟨_, rfl⟩) rfl rfl rfl w_175 d_F_init_9 ?_
  refine so_aload_n d_F_init_12 rfl ?_
  refine so_iconst d_F_init_13 rfl ?_
  refine so_putfI cl_5 (k := 1) (by decide) rfl rfl w_176 d_F_init_14 ?_
  exact so_vret d_F_init_17 rfl
theorem d_F_copyOut_0 : decode prog_7_method_2_code 0 = .ok (.iconst 0, 1) := by decide +kernel
theorem d_F_copyOut_1 : decode prog_7_method_2_code 1 = .ok (.istore 4, 2) := by decide +kernel
theorem d_F_copyOut_3 : decode prog_7_method_2_code 3 = .ok (.iload 4, 2) := by decide +kernel
theorem d_F_copyOut_5 : decode prog_7_method_2_code 5 = .ok (.iload_n 3, 1) := by decide +kernel
theorem d_F_copyOut_6 : decode prog_7_method_2_code 6 = .ok (.if_icmp .ge 22, 3) := by decide +kernel
theorem d_F_copyOut_9 : decode prog_7_method_2_code 9 = .ok (.aload_n 2, 1) := by decide +kernel
theorem d_F_copyOut_10 : decode prog_7_method_2_code 10 = .ok (.iload 4, 2) := by decide +kernel
theorem d_F_copyOut_12 : decode prog_7_method_2_code 12 = .ok (.aload_n 0, 1) := by decide +kernel
theorem d_F_copyOut_13 : decode prog_7_method_2_code 13 = .ok (.getfield 9, 3) := by decide +kernel
theorem d_F_copyOut_16 : decode prog_7_method_2_code 16 = .ok (.iload_n 1, 1) := by decide +kernel
theorem d_F_copyOut_17 : decode prog_7_method_2_code 17 = .ok (.iload 4, 2) := by decide +kernel
theorem d_F_copyOut_19 : decode prog_7_method_2_code 19 = .ok (.iadd, 1) := by decide +kernel
theorem d_F_copyOut_20 : decode prog_7_method_2_code 20 = .ok (.iaload, 1) := by decide +kernel
theorem d_F_copyOut_21 : decode prog_7_method_2_code 21 = .ok (.iastore, 1) := by decide +kernel
theorem d_F_copyOut_22 : decode prog_7_method_2_code 22 = .ok (.iinc 4 1, 3) := by decide +kernel
theorem d_F_copyOut_25 : decode prog_7_method_2_code 25 = .ok (.goto (-22), 3) := by decide +kernel
theorem d_F_copyOut_28 : decode prog_7_method_2_code 28 = .ok (.return_, 1) := by decide +kernel
def k_F_copyOut_0 (G : oG) (Post : oP) : oK := o_iconst 0 <| o_istore 4 <| o_jmp G m_F_copyOut Post 3 [0, 1, 2, 3, 4]
theorem s_F_copyOut_0 {G : oG} {Post : oP} : oS G m_F_copyOut Post 0 (k_F_copyOut_0 G Post) := by
  unfold k_F_copyOut_0
  refine so_iconst d_F_copyOut_0 rfl ?_
  refine so_istore d_F_copyOut_1 (by decide) ?_
  exact so_jmp
def k_F_copyOut_3 (G : oG) (Post : oP) : oK := o_iload 4 <| o_iload 3 <| o_icmpge (o_vret Post) (o_aload 2 <| o_iload 4 <| o_aload 0 <| o_getf 5 0 <| o_iload 1 <| o_iload 4 <| o_iadd <| o_iald G <| o_iast <| o_iinc 4 1 <| o_jmp G m_F_copyOut Post 3 [0, 1, 2, 3, 4])
theorem s_F_copyOut_3 {G : oG} {Post : oP} : oS G m_F_copyOut Post 3 (k_F_copyOut_3 G Post) := by
  unfold k_F_copyOut_3
  refine so_iload d_F_copyOut_3 ?_
  refine so_iload_n d_F_copyOut_5 rfl ?_
  refine so_icmpge d_F_copyOut_6 (tgt := 28) (by decide) ?_ ?_
  · exact so_vret d_F_copyOut_28 rfl
  · refine so_aload_n d_F_copyOut_9 rfl ?_
    refine so_iload d_F_copyOut_10 ?_
    refine so_aload_n d_F_copyOut_12 rfl ?_
    refine so_getf cl_5 (k := 0) (by decide) w_175 d_F_copyOut_13 ?_
    refine so_iload_n d_F_copyOut_16 rfl ?_
    refine so_iload d_F_copyOut_17 ?_
    refine so_iadd d_F_copyOut_19 ?_
    refine so_iald d_F_copyOut_20 ?_
    refine so_iast d_F_copyOut_21 ?_
    refine so_iinc d_F_copyOut_22 rfl (by decide) ?_
    refine so_goto d_F_copyOut_25 (tgt := 3) (by decide) ?_
    exact so_jmp
theorem d_F_putIn_0 : decode prog_7_method_3_code 0 = .ok (.aload_n 0, 1) := by decide +kernel
theorem d_F_putIn_1 : decode prog_7_method_3_code 1 = .ok (.getfield 15, 3) := by decide +kernel
theorem d_F_putIn_4 : decode prog_7_method_3_code 4 = .ok (.istore 4, 2) := by decide +kernel
theorem d_F_putIn_6 : decode prog_7_method_3_code 6 = .ok (.iload 4, 2) := by decide +kernel
theorem d_F_putIn_8 : decode prog_7_method_3_code 8 = .ok (.iload_n 1, 1) := by decide +kernel
theorem d_F_putIn_9 : decode prog_7_method_3_code 9 = .ok (.if_icmp .ge 17, 3) := by decide +kernel
theorem d_F_putIn_12 : decode prog_7_method_3_code 12 = .ok (.aload_n 0, 1) := by decide +kernel
theorem d_F_putIn_13 : decode prog_7_method_3_code 13 = .ok (.getfield 9, 3) := by decide +kernel
theorem d_F_putIn_16 : decode prog_7_method_3_code 16 = .ok (.iload 4, 2) := by decide +kernel
theorem d_F_putIn_18 : decode prog_7_method_3_code 18 = .ok (.iconst 0, 1) := by decide +kernel
theorem d_F_putIn_19 : decode prog_7_method_3_code 19 = .ok (.iastore, 1) := by decide +kernel
theorem d_F_putIn_20 : decode prog_7_method_3_code 20 = .ok (.iinc 4 1, 3) := by decide +kernel
theorem d_F_putIn_23 : decode prog_7_method_3_code 23 = .ok (.goto (-17), 3) := by decide +kernel
theorem d_F_putIn_26 : decode prog_7_method_3_code 26 = .ok (.iconst 0, 1) := by decide +kernel
theorem d_F_putIn_27 : decode prog_7_method_3_code 27 = .ok (.istore 4, 2) := by decide +kernel
theorem d_F_putIn_29 : decode prog_7_method_3_code 29 = .ok (.iload 4, 2) := by decide +kernel
theorem d_F_putIn_31 : decode prog_7_method_3_code 31 = .ok (.iload_n 3, 1) := by decide +kernel
theorem d_F_putIn_32 : decode prog_7_method_3_code 32 = .ok (.if_icmp .ge 22, 3) := by decide +kernel
theorem d_F_putIn_35 : decode prog_7_method_3_code 35 = .ok (.aload_n 0, 1) := by decide +kernel
theorem d_F_putIn_36 : decode prog_7_method_3_code 36 = .ok (.getfield 9, 3) := by decide +kernel
theorem d_F_putIn_39 : decode prog_7_method_3_code 39 = .ok (.iload_n 1, 1) := by decide +kernel
theorem d_F_putIn_40 : decode prog_7_method_3_code 40 = .ok (.iload 4, 2) := by decide +kernel
theorem d_F_putIn_42 : decode prog_7_method_3_code 42 = .ok (.iadd, 1) := by decide +kernel
theorem d_F_putIn_43 : decode prog_7_method_3_code 43 = .ok (.aload_n 2, 1) := by decide +kernel
theorem d_F_putIn_44 : decode prog_7_method_3_code 44 = .ok (.iload 4, 2) := by decide +kernel
theorem d_F_putIn_46 : decode prog_7_method_3_code 46 = .ok (.iaload, 1) := by decide +kernel
theorem d_F_putIn_47 : decode prog_7_method_3_code 47 = .ok (.iastore, 1) := by decide +kernel
theorem d_F_putIn_48 : decode prog_7_method_3_code 48 = .ok (.iinc 4 1, 3) := by decide +kernel
theorem d_F_putIn_51 : decode prog_7_method_3_code 51 = .ok (.goto (-22), 3) := by decide +kernel
theorem d_F_putIn_54 : decode prog_7_method_3_code 54 = .ok (.aload_n 0, 1) := by decide +kernel
theorem d_F_putIn_55 : decode prog_7_method_3_code 55 = .ok (.aload_n 0, 1) := by decide +kernel
theorem d_F_putIn_56 : decode prog_7_method_3_code 56 = .ok (.getfield 15, 3) := by decide +kernel
theorem d_F_putIn_59 : decode prog_7_method_3_code 59 = .ok (.iload_n 1, 1) := by decide +kernel
theorem d_F_putIn_60 : decode prog_7_method_3_code 60 = .ok (.iload_n 3, 1) := by decide +kernel
theorem d_F_putIn_61 : decode prog_7_method_3_code 61 = .ok (.iadd, 1) := by decide +kernel
theorem d_F_putIn_62 : decode prog_7_method_3_code 62 = .ok (.invokestatic 19, 3) := by decide +kernel
theorem d_F_putIn_65 : decode prog_7_method_3_code 65 = .ok (.putfield 15, 3) := by decide +kernel
theorem d_F_putIn_68 : decode prog_7_method_3_code 68 = .ok (.return_, 1) := by decide +kernel
def k_F_putIn_0 (G : oG) (Post : oP) : oK := o_aload 0 <| o_getf 5 1 <| o_istore 4 <| o_jmp G m_F_putIn Post 6 [0, 1, 2, 3, 4]
theorem s_F_putIn_0 {G : oG} {Post : oP} : oS G m_F_putIn Post 0 (k_F_putIn_0 G Post) := by
  unfold k_F_putIn_0
  refine so_aload_n d_F_putIn_0 rfl ?_
  refine so_getf cl_5 (k := 1) (by decide) w_176 d_F_putIn_1 ?_
  refine so_istore d_F_putIn_4 (by decide) ?_
  exact so_jmp
def k_F_putIn_6 (G : oG) (Post : oP) : oK := o_iload 4 <| o_iload 1 <| o_icmpge (o_iconst 0 <| o_istore 4 <| o_jmp G m_F_putIn Post 29 [0, 1, 2, 3, 4]) (o_aload 0 <| o_getf 5 0 <| o_iload 4 <| o_iconst 0 <| o_iast <| o_iinc 4 1 <| o_jmp G m_F_putIn Post 6 [0, 1, 2, 3, 4])
theorem s_F_putIn_6 {G : oG} {Post : oP} : oS G m_F_putIn Post 6 (k_F_putIn_6 G Post) := by
  unfold k_F_putIn_6
  refine so_iload d_F_putIn_6 ?_
  refine so_iload_n d_F_putIn_8 rfl ?_
  refine so_icmpge d_F_putIn_9 (tgt := 26) (by decide) ?_ ?_
  · refine so_iconst d_F_putIn_26 rfl ?_
    refine so_istore d_F_putIn_27 (by decide) ?_
    exact so_jmp
  · refine so_aload_n d_F_putIn_12 rfl ?_
    refine so_getf cl_5 (k := 0) (by decide) w_175 d_F_putIn_13 ?_
    refine so_iload d_F_putIn_16 ?_
    refine so_iconst d_F_putIn_18 rfl ?_
    refine so_iast d_F_putIn_19 ?_
    refine so_iinc d_F_putIn_20 rfl (by decide) ?_
    refine so_goto d_F_putIn_23 (tgt := 6) (by decide) ?_
    exact so_jmp
def k_F_putIn_29 (G : oG) (Post : oP) : oK := o_iload 4 <| o_iload 3 <| o_icmpge (o_aload 0 <| o_aload 0 <| o_getf 5 1 <| o_iload 1 <| o_iload 3 <| o_iadd <| o_callS G m_J_max 2 <| o_jmp G m_F_putIn Post 65 []) (o_aload 0 <| o_getf 5 0 <| o_iload 1 <| o_iload 4 <| o_iadd <| o_aload 2 <| o_iload 4 <| o_iald G <| o_iast <| o_iinc 4 1 <| o_jmp G m_F_putIn Post 29 [0, 1, 2, 3, 4])
theorem s_F_putIn_29 {G : oG} {Post : oP} : oS G m_F_putIn Post 29 (k_F_putIn_29 G Post) := by
  unfold k_F_putIn_29
  refine so_iload d_F_putIn_29 ?_
  refine so_iload_n d_F_putIn_31 rfl ?_
  refine so_icmpge d_F_putIn_32 (tgt := 54) (by decide) ?_ ?_
  · refine so_aload_n d_F_putIn_54 rfl ?_
    refine so_aload_n d_F_putIn_55 rfl ?_
    refine so_getf cl_5 (k := 1) (by decide) w_176 d_F_putIn_56 ?_
    refine so_iload_n d_F_putIn_59 rfl ?_
    refine so_iload_n d_F_putIn_60 rfl ?_
    refine so_iadd d_F_putIn_61 ?_
    refine so_callS f_J_max w_410 w_453 (by decide) (by decide) d_F_putIn_62 ?_
    exact so_jmp
  · refine so_aload_n d_F_putIn_35 rfl ?_
    refine so_getf cl_5 (k := 0) (by decide) w_175 d_F_putIn_36 ?_
    refine so_iload_n d_F_putIn_39 rfl ?_
    refine so_iload d_F_putIn_40 ?_
    refine so_iadd d_F_putIn_42 ?_
    refine so_aload_n d_F_putIn_43 rfl ?_
    refine so_iload d_F_putIn_44 ?_
    refine so_iald d_F_putIn_46 ?_
    refine so_iast d_F_putIn_47 ?_
    refine so_iinc d_F_putIn_48 rfl (by decide) ?_
    refine so_goto d_F_putIn_51 (tgt := 29) (by decide) ?_
    exact so_jmp
def k_F_putIn_65 (G : oG) (Post : oP) : oK := o_putfI 5 1 <| o_vret Post
theorem s_F_putIn_65 {G : oG} {Post : oP} : oS G m_F_putIn Post 65 (k_F_putIn_65 G Post) := by
  unfold k_F_putIn_65
  refine so_putfI cl_5 (k := 1) (by decide) rfl rfl w_176 d_F_putIn_65 ?_
  exact so_vret d_F_putIn_68 rfl
theorem d_P_init_0 : decode prog_5_method_1_code 0 = .ok (.aload_n 0, 1) := by decide +kernel
theorem d_P_init_1 : decode prog_5_method_1_code 1 = .ok (.invokespecial 3, 3) := by decide +kernel
theorem d_P_init_4 : decode prog_5_method_1_code 4 = .ok (.aload_n 0, 1) := by decide +kernel
theorem d_P_init_5 : decode prog_5_method_1_code 5 = .ok (.bipush 8, 2) := by decide +kernel
theorem d_P_init_7 : decode prog_5_method_1_code 7 = .ok (.newarray .int, 2) := by decide +kernel
theorem d_P_init_9 : decode prog_5_method_1_code 9 = .ok (.putfield 9, 3) := by decide +kernel
theorem d_P_init_12 : decode prog_5_method_1_code 12 = .ok (.aload_n 0, 1) := by decide +kernel
theorem d_P_init_13 : decode prog_5_method_1_code 13 = .ok (.iconst 0, 1) := by decide +kernel
theorem d_P_init_14 : decode prog_5_method_1_code 14 = .ok (.putfield 15, 3) := by decide +kernel
theorem d_P_init_17 : decode prog_5_method_1_code 17 = .ok (.return_, 1) := by decide +kernel
def k_P_init_0 (G : oG) (Post : oP) : oK := o_aload 0 <| o_objInit <| o_aload 0 <| o_iconst 8 <| o_newa 0 (.inl (fun _ => 0)) <| o_putfR 3 0 <| o_aload 0 <| o_iconst 0 <| o_putfI 3 1 <| o_vret Post
theorem s_P_init_0 {G : oG} {Post : oP} : oS G m_P_init Post 0 (k_P_init_0 G Post) := by
  unfold k_P_init_0
  refine so_aload_n d_P_init_0 rfl ?_
  refine so_objInit w_187 w_85 w_objcode (by decide) (by decide) d_P_init_1 ?_
  refine so_aload_n d_P_init_4 rfl ?_
  refine so_bipush d_P_init_5 rfl ?_
  refine so_newa (ty := .int) rfl w_104 (t := 0) rfl (fun _ q => by cases q) (by decide) rfl (fun _ _ => rfl) d_P_init_7 ?_
  refine so_putfRF cl_3 (k := 0) (by decide) (Or.inr ⟨_, rfl⟩) rfl rfl rfl w_188 d_P_init_9 ?_
  refine so_aload_n d_P_init_12 rfl ?_
  refine so_iconst d_P_init_13 rfl ?_
  refine so_putfI cl_3 (k := 1) (by decide) rfl rfl w_189 d_P_init_14 ?_
  exact so_vret d_P_init_17 rfl
theorem d_P_takeOut_0 : decode prog_5_method_2_code 0 = .ok (.iconst 0, 1) := by decide +kernel
theorem d_P_takeOut_1 : decode prog_5_method_2_code 1 = .ok (.istore_n 3, 1) := by decide +kernel
theorem d_P_takeOut_2 : decode prog_5_method_2_code 2 = .ok (.iload_n 3, 1) := by decide +kernel
theorem d_P_takeOut_3 : decode prog_5_method_2_code 3 = .ok (.iload_n 2, 1) := by decide +kernel
theorem d_P_takeOut_4 : decode prog_5_method_2_code 4 = .ok (.if_icmp .ge 18, 3) := by decide +kernel
theorem d_P_takeOut_7 : decode prog_5_method_2_code 7 = .ok (.aload_n 1, 1) := by decide +kernel
theorem d_P_takeOut_8 : decode prog_5_method_2_code 8 = .ok (.iload_n 3, 1) := by decide +kernel
theorem d_P_takeOut_9 : decode prog_5_method_2_code 9 = .ok (.aload_n 0, 1) := by decide +kernel
theorem d_P_takeOut_10 : decode prog_5_method_2_code 10 = .ok (.getfield 9, 3) := by decide +kernel
theorem d_P_takeOut_13 : decode prog_5_method_2_code 13 = .ok (.iload_n 3, 1) := by decide +kernel
theorem d_P_takeOut_14 : decode prog_5_method_2_code 14 = .ok (.iaload, 1) := by decide +kernel
theorem d_P_takeOut_15 : decode prog_5_method_2_code 15 = .ok (.iastore, 1) := by decide +kernel
theorem d_P_takeOut_16 : decode prog_5_method_2_code 16 = .ok (.iinc 3 1, 3) := by decide +kernel
theorem d_P_takeOut_19 : decode prog_5_method_2_code 19 = .ok (.goto (-17), 3) := by decide +kernel
theorem d_P_takeOut_22 : decode prog_5_method_2_code 22 = .ok (.aload_n 0, 1) := by decide +kernel
theorem d_P_takeOut_23 : decode prog_5_method_2_code 23 = .ok (.dup, 1) := by decide +kernel
theorem d_P_takeOut_24 : decode prog_5_method_2_code 24 = .ok (.getfield 15, 3) := by decide +kernel
theorem d_P_takeOut_27 : decode prog_5_method_2_code 27 = .ok (.iload_n 2, 1) := by decide +kernel
theorem d_P_takeOut_28 : decode prog_5_method_2_code 28 = .ok (.isub, 1) := by decide +kernel
theorem d_P_takeOut_29 : decode prog_5_method_2_code 29 = .ok (.putfield 15, 3) := by decide +kernel
theorem d_P_takeOut_32 : decode prog_5_method_2_code 32 = .ok (.iconst 0, 1) := by decide +kernel
theorem d_P_takeOut_33 : decode prog_5_method_2_code 33 = .ok (.istore_n 3, 1) := by decide +kernel
theorem d_P_takeOut_34 : decode prog_5_method_2_code 34 = .ok (.iload_n 3, 1) := by decide +kernel
theorem d_P_takeOut_35 : decode prog_5_method_2_code 35 = .ok (.aload_n 0, 1) := by decide +kernel
theorem d_P_takeOut_36 : decode prog_5_method_2_code 36 = .ok (.getfield 15, 3) := by decide +kernel
theorem d_P_takeOut_39 : decode prog_5_method_2_code 39 = .ok (.if_icmp .ge 23, 3) := by decide +kernel
theorem d_P_takeOut_42 : decode prog_5_method_2_code 42 = .ok (.aload_n 0, 1) := by decide +kernel
theorem d_P_takeOut_43 : decode prog_5_method_2_code 43 = .ok (.getfield 9, 3) := by decide +kernel
theorem d_P_takeOut_46 : decode prog_5_method_2_code 46 = .ok (.iload_n 3, 1) := by decide +kernel
theorem d_P_takeOut_47 : decode prog_5_method_2_code 47 = .ok (.aload_n 0, 1) := by decide +kernel
theorem d_P_takeOut_48 : decode prog_5_method_2_code 48 = .ok (.getfield 9, 3) := by decide +kernel
theorem d_P_takeOut_51 : decode prog_5_method_2_code 51 = .ok (.iload_n 3, 1) := by decide +kernel
theorem d_P_takeOut_52 : decode prog_5_method_2_code 52 = .ok (.iload_n 2, 1) := by decide +kernel
theorem d_P_takeOut_53 : decode prog_5_method_2_code 53 = .ok (.iadd, 1) := by decide +kernel
theorem d_P_takeOut_54 : decode prog_5_method_2_code 54 = .ok (.iaload, 1) := by decide +kernel
theorem d_P_takeOut_55 : decode prog_5_method_2_code 55 = .ok (.iastore, 1) := by decide +kernel
theorem d_P_takeOut_56 : decode prog_5_method_2_code 56 = .ok (.iinc 3 1, 3) := by decide +kernel
theorem d_P_takeOut_59 : decode prog_5_method_2_code 59 = .ok (.goto (-25), 3) := by decide +kernel
theorem d_P_takeOut_62 : decode prog_5_method_2_code 62 = .ok (.return_, 1) := by decide +kernel
def k_P_takeOut_0 (G : oG) (Post : oP) : oK := o_iconst 0 <| o_istore 3 <| o_jmp G m_P_takeOut Post 2 [0, 1, 2, 3]
theorem s_P_takeOut_0 {G : oG} {Post : oP} : oS G m_P_takeOut Post 0 (k_P_takeOut_0 G Post) := by
  unfold k_P_takeOut_0
  refine so_iconst d_P_takeOut_0 rfl ?_
  refine so_istore_n d_P_takeOut_1 rfl (by decide) ?_
  exact so_jmp
def k_P_takeOut_2 (G : oG) (Post : oP) : oK := o_iload 3 <| o_iload 2 <| o_icmpge (o_aload 0 <| o_dup <| o_getf 3 1 <| o_iload 2 <| o_isub <| o_putfI 3 1 <| o_iconst 0 <| o_istore 3 <| o_jmp G m_P_takeOut Post 34 [0, 2, 3]) (o_aload 1 <| o_iload 3 <| o_aload 0 <| o_getf 3 0 <| o_iload 3 <| o_iald G <| o_iast <| o_iinc 3 1 <| o_jmp G m_P_takeOut Post 2 [0, 1, 2, 3])
theorem s_P_takeOut_2 {G : oG} {Post : oP} : oS G m_P_takeOut Post 2 (k_P_takeOut_2 G Post) := by
  unfold k_P_takeOut_2
  refine so_iload_n d_P_takeOut_2 rfl ?_
  refine so_iload_n d_P_takeOut_3 rfl ?_
  refine so_icmpge d_P_takeOut_4 (tgt := 22) (by decide) ?_ ?_
  · refine so_aload_n d_P_takeOut_22 rfl ?_
    refine so_dup d_P_takeOut_23 ?_
    refine so_getf cl_3 (k := 1) (by decide) w_189 d_P_takeOut_24 ?_
    refine so_iload_n d_P_takeOut_27 rfl ?_
    refine so_isub d_P_takeOut_28 ?_
    refine so_putfI cl_3 (k := 1) (by decide) rfl rfl w_189 d_P_takeOut_29 ?_
    refine so_iconst d_P_takeOut_32 rfl ?_
    refine so_istore_n d_P_takeOut_33 rfl (by decide) ?_
    exact so_jmp
  · refine so_aload_n d_P_takeOut_7 rfl ?_
    refine so_iload_n d_P_takeOut_8 rfl ?_
    refine so_aload_n d_P_takeOut_9 rfl ?_
    refine so_getf cl_3 (k := 0) (by decide) w_188 d_P_takeOut_10 ?_
    refine so_iload_n d_P_takeOut_13 rfl ?_
    refine so_iald d_P_takeOut_14 ?_
    refine so_iast d_P_takeOut_15 ?_
    refine so_iinc d_P_takeOut_16 rfl (by decide) ?_
    refine so_goto d_P_takeOut_19 (tgt := 2) (by decide) ?_
    exact so_jmp
def k_P_takeOut_34 (G : oG) (Post : oP) : oK := o_iload 3 <| o_aload 0 <| o_getf 3 1 <| o_icmpge (o_vret Post) (o_aload 0 <| o_getf 3 0 <| o_iload 3 <| o_aload 0 <| o_getf 3 0 <| o_iload 3 <| o_iload 2 <| o_iadd <| o_iald G <| o_iast <| o_iinc 3 1 <| o_jmp G m_P_takeOut Post 34 [0, 2, 3])
theorem s_P_takeOut_34 {G : oG} {Post : oP} : oS G m_P_takeOut Post 34 (k_P_takeOut_34 G Post) := by
  unfold k_P_takeOut_34
  refine so_iload_n d_P_takeOut_34 rfl ?_
  refine so_aload_n d_P_takeOut_35 rfl ?_
  refine so_getf cl_3 (k := 1) (by decide) w_189 d_P_takeOut_36 ?_
  refine so_icmpge d_P_takeOut_39 (tgt := 62) (by decide) ?_ ?_
  · exact so_vret d_P_takeOut_62 rfl
  · refine so_aload_n d_P_takeOut_42 rfl ?_
    refine so_getf cl_3 (k := 0) (by decide) w_188 d_P_takeOut_43 ?_
    refine so_iload_n d_P_takeOut_46 rfl ?_
    refine so_aload_n d_P_takeOut_47 rfl ?_
    refine so_getf cl_3 (k := 0) (by decide) w_188 d_P_takeOut_48 ?_
    refine so_iload_n d_P_takeOut_51 rfl ?_
    refine so_iload_n d_P_takeOut_52 rfl ?_
    refine so_iadd d_P_takeOut_53 ?_
    refine so_iald d_P_takeOut_54 ?_
    refine so_iast d_P_takeOut_55 ?_
    refine so_iinc d_P_takeOut_56 rfl (by decide) ?_
    refine so_goto d_P_takeOut_59 (tgt := 34) (by decide) ?_
    exact so_jmp
theorem d_P_putIn_0 : decode prog_5_method_3_code 0 = .ok (.iconst 0, 1) := by decide +kernel
theorem d_P_putIn_1 : decode prog_5_method_3_code 1 = .ok (.istore_n 3, 1) := by decide +kernel
theorem d_P_putIn_2 : decode prog_5_method_3_code 2 = .ok (.iload_n 3, 1) := by decide +kernel
theorem d_P_putIn_3 : decode prog_5_method_3_code 3 = .ok (.iload_n 2, 1) := by decide +kernel
theorem d_P_putIn_4 : decode prog_5_method_3_code 4 = .ok (.if_icmp .ge 23, 3) := by decide +kernel
theorem d_P_putIn_7 : decode prog_5_method_3_code 7 = .ok (.aload_n 0, 1) := by decide +kernel
theorem d_P_putIn_8 : decode prog_5_method_3_code 8 = .ok (.getfield 9, 3) := by decide +kernel
theorem d_P_putIn_11 : decode prog_5_method_3_code 11 = .ok (.aload_n 0, 1) := by decide +kernel
theorem d_P_putIn_12 : decode prog_5_method_3_code 12 = .ok (.getfield 15, 3) := by decide +kernel
theorem d_P_putIn_15 : decode prog_5_method_3_code 15 = .ok (.iload_n 3, 1) := by decide +kernel
theorem d_P_putIn_16 : decode prog_5_method_3_code 16 = .ok (.iadd, 1) := by decide +kernel
theorem d_P_putIn_17 : decode prog_5_method_3_code 17 = .ok (.aload_n 1, 1) := by decide +kernel
theorem d_P_putIn_18 : decode prog_5_method_3_code 18 = .ok (.iload_n 3, 1) := by decide +kernel
theorem d_P_putIn_19 : decode prog_5_method_3_code 19 = .ok (.iaload, 1) := by decide +kernel
theorem d_P_putIn_20 : decode prog_5_method_3_code 20 = .ok (.iastore, 1) := by decide +kernel
theorem d_P_putIn_21 : decode prog_5_method_3_code 21 = .ok (.iinc 3 1, 3) := by decide +kernel
theorem d_P_putIn_24 : decode prog_5_method_3_code 24 = .ok (.goto (-22), 3) := by decide +kernel
theorem d_P_putIn_27 : decode prog_5_method_3_code 27 = .ok (.aload_n 0, 1) := by decide +kernel
theorem d_P_putIn_28 : decode prog_5_method_3_code 28 = .ok (.dup, 1) := by decide +kernel
theorem d_P_putIn_29 : decode prog_5_method_3_code 29 = .ok (.getfield 15, 3) := by decide +kernel
theorem d_P_putIn_32 : decode prog_5_method_3_code 32 = .ok (.iload_n 2, 1) := by decide +kernel
theorem d_P_putIn_33 : decode prog_5_method_3_code 33 = .ok (.iadd, 1) := by decide +kernel
theorem d_P_putIn_34 : decode prog_5_method_3_code 34 = .ok (.putfield 15, 3) := by decide +kernel
theorem d_P_putIn_37 : decode prog_5_method_3_code 37 = .ok (.return_, 1) := by decide +kernel
def k_P_putIn_0 (G : oG) (Post : oP) : oK := o_iconst 0 <| o_istore 3 <| o_jmp G m_P_putIn Post 2 [0, 1, 2, 3]
theorem s_P_putIn_0 {G : oG} {Post : oP} : oS G m_P_putIn Post 0 (k_P_putIn_0 G Post) := by
  unfold k_P_putIn_0
  refine so_iconst d_P_putIn_0 rfl ?_
  refine so_istore_n d_P_putIn_1 rfl (by decide) ?_
  exact so_jmp
def k_P_putIn_2 (G : oG) (Post : oP) : oK := o_iload 3 <| o_iload 2 <| o_icmpge (o_aload 0 <| o_dup <| o_getf 3 1 <| o_iload 2 <| o_iadd <| o_putfI 3 1 <| o_vret Post) (o_aload 0 <| o_getf 3 0 <| o_aload 0 <| o_getf 3 1 <| o_iload 3 <| o_iadd <| o_aload 1 <| o_iload 3 <| o_iald G <| o_iast <| o_iinc 3 1 <| o_jmp G m_P_putIn Post 2 [0, 1, 2, 3])
theorem s_P_putIn_2 {G : oG} {Post : oP} : oS G m_P_putIn Post 2 (k_P_putIn_2 G Post) := by
  unfold k_P_putIn_2
  refine so_iload_n d_P_putIn_2 rfl ?_
  refine so_iload_n d_P_putIn_3 rfl ?_
  refine so_icmpge d_P_putIn_4 (tgt := 27) (by decide) ?_ ?_
  · refine so_aload_n d_P_putIn_27 rfl ?_
    refine so_dup d_P_putIn_28 ?_
    refine so_getf cl_3 (k := 1) (by decide) w_189 d_P_putIn_29 ?_
    refine so_iload_n d_P_putIn_32 rfl ?_
    refine so_iadd d_P_putIn_33 ?_
    refine so_putfI cl_3 (k := 1) (by decide) rfl rfl w_189 d_P_putIn_34 ?_
    exact so_vret d_P_putIn_37 rfl
  · refine so_aload_n d_P_putIn_7 rfl ?_
    refine so_getf cl_3 (k := 0) (by decide) w_188 d_P_putIn_8 ?_
    refine so_aload_n d_P_putIn_11 rfl ?_
    refine so_getf cl_3 (k := 1) (by decide) w_189 d_P_putIn_12 ?_
    refine so_iload_n d_P_putIn_15 rfl ?_
    refine so_iadd d_P_putIn_16 ?_
    refine so_aload_n d_P_putIn_17 rfl ?_
    refine so_iload_n d_P_putIn_18 rfl ?_
    refine so_iald d_P_putIn_19 ?_
    refine so_iast d_P_putIn_20 ?_
    refine so_iinc d_P_putIn_21 rfl (by decide) ?_
    refine so_goto d_P_putIn_24 (tgt := 2) (by decide) ?_
    exact so_jmp
end
