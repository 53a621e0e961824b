/-! code in blocks, by program -/
theorem d_T_trap_0 : decode prog_1_method_9_code 0 = .ok (.iload_n 1, 1) := by decide +kernel
theorem d_T_trap_1 : decode prog_1_method_9_code 1 = .ok (.invokestatic 62, 3) := by decide +kernel
theorem d_T_trap_4 : decode prog_1_method_9_code 4 = .ok (.ifCond .ne 5, 3) := by decide +kernel
theorem d_T_trap_7 : decode prog_1_method_9_code 7 = .ok (.iconst (-1), 1) := by decide +kernel
theorem d_T_trap_8 : decode prog_1_method_9_code 8 = .ok (.ireturn, 1) := by decide +kernel
theorem d_T_trap_9 : decode prog_1_method_9_code 9 = .ok (.aload_n 0, 1) := by decide +kernel
theorem d_T_trap_10 : decode prog_1_method_9_code 10 = .ok (.iload_n 1, 1) := by decide +kernel
theorem d_T_trap_11 : decode prog_1_method_9_code 11 = .ok (.iload_n 2, 1) := by decide +kernel
theorem d_T_trap_12 : decode prog_1_method_9_code 12 = .ok (.invokevirtual 84, 3) := by decide +kernel
theorem d_T_trap_15 : decode prog_1_method_9_code 15 = .ok (.istore_n 3, 1) := by decide +kernel
theorem d_T_trap_16 : decode prog_1_method_9_code 16 = .ok (.aload_n 0, 1) := by decide +kernel
theorem d_T_trap_17 : decode prog_1_method_9_code 17 = .ok (.getfield 16, 3) := by decide +kernel
theorem d_T_trap_20 : decode prog_1_method_9_code 20 = .ok (.iload_n 1, 1) := by decide +kernel
theorem d_T_trap_21 : decode prog_1_method_9_code 21 = .ok (.iconst 3, 1) := by decide +kernel
theorem d_T_trap_22 : decode prog_1_method_9_code 22 = .ok (.imul, 1) := by decide +kernel
theorem d_T_trap_23 : decode prog_1_method_9_code 23 = .ok (.iload_n 3, 1) := by decide +kernel
theorem d_T_trap_24 : decode prog_1_method_9_code 24 = .ok (.iastore, 1) := by decide +kernel
theorem d_T_trap_25 : decode prog_1_method_9_code 25 = .ok (.aload_n 0, 1) := by decide +kernel
theorem d_T_trap_26 : decode prog_1_method_9_code 26 = .ok (.dup, 1) := by decide +kernel
theorem d_T_trap_27 : decode prog_1_method_9_code 27 = .ok (.getfield 56, 3) := by decide +kernel
theorem d_T_trap_30 : decode prog_1_method_9_code 30 = .ok (.iconst 1, 1) := by decide +kernel
theorem d_T_trap_31 : decode prog_1_method_9_code 31 = .ok (.iadd, 1) := by decide +kernel
theorem d_T_trap_32 : decode prog_1_method_9_code 32 = .ok (.putfield 56, 3) := by decide +kernel
theorem d_T_trap_35 : decode prog_1_method_9_code 35 = .ok (.iload_n 3, 1) := by decide +kernel
theorem d_T_trap_36 : decode prog_1_method_9_code 36 = .ok (.ireturn, 1) := by decide +kernel
def k_T_trap_0 (G : oG) (Post : oP) : oK := o_iload 1 <| o_callS G m_T_isProcess 1 <| o_jmp G m_T_trap Post 4 [0, 1, 2]
theorem s_T_trap_0 {G : oG} {Post : oP} : oS G m_T_trap Post 0 (k_T_trap_0 G Post) := by
  unfold k_T_trap_0
  refine so_iload_n d_T_trap_0 rfl ?_
  refine so_callS f_T_isProcess w_229 w_228 (by decide) (by decide) d_T_trap_1 ?_
  exact so_jmp
def k_T_trap_4 (G : oG) (Post : oP) : oK := o_ifne (o_aload 0 <| o_iload 1 <| o_iload 2 <| o_callV G 6 m_T_serve 2 <| o_jmp G m_T_trap Post 15 [0, 1]) (o_iconst (-1) <| o_iret Post)
theorem s_T_trap_4 {G : oG} {Post : oP} : oS G m_T_trap Post 4 (k_T_trap_4 G Post) := by
  unfold k_T_trap_4
  refine so_ifne d_T_trap_4 (tgt := 9) (by decide) ?_ ?_
  · refine so_aload_n d_T_trap_9 rfl ?_
    refine so_iload_n d_T_trap_10 rfl ?_
    refine so_iload_n d_T_trap_11 rfl ?_
    refine so_callV cl_6 f_T_serve w_273 w_0 w_271 (by decide) (by decide) d_T_trap_12 ?_
    exact so_jmp
  · refine so_iconst d_T_trap_7 rfl ?_
    exact so_iret d_T_trap_8 rfl
def k_T_trap_15 (G : oG) (Post : oP) : oK := o_istore 3 <| o_aload 0 <| o_getf 6 1 <| o_iload 1 <| o_iconst 3 <| o_imul <| o_iload 3 <| o_iast <| o_aload 0 <| o_dup <| o_getf 6 8 <| o_iconst 1 <| o_iadd <| o_putfI 6 8 <| o_iload 3 <| o_iret Post
theorem s_T_trap_15 {G : oG} {Post : oP} : oS G m_T_trap Post 15 (k_T_trap_15 G Post) := by
  unfold k_T_trap_15
  refine so_istore_n d_T_trap_15 rfl (by decide) ?_
  refine so_aload_n d_T_trap_16 rfl ?_
  refine so_getf cl_6 (k := 1) (by decide) w_197 d_T_trap_17 ?_
  refine so_iload_n d_T_trap_20 rfl ?_
  refine so_iconst d_T_trap_21 rfl ?_
  refine so_imul d_T_trap_22 ?_
  refine so_iload_n d_T_trap_23 rfl ?_
  refine so_iast d_T_trap_24 ?_
  refine so_aload_n d_T_trap_25 rfl ?_
  refine so_dup d_T_trap_26 ?_
  refine so_getf cl_6 (k := 8) (by decide) w_204 d_T_trap_27 ?_
  refine so_iconst d_T_trap_30 rfl ?_
  refine so_iadd d_T_trap_31 ?_
  refine so_putfI cl_6 (k := 8) (by decide) rfl rfl w_204 d_T_trap_32 ?_
  refine so_iload_n d_T_trap_35 rfl ?_
  exact so_iret d_T_trap_36 rfl
theorem d_T_call_0 : decode prog_1_method_10_code 0 = .ok (.iload_n 1, 1) := by decide +kernel
theorem d_T_call_1 : decode prog_1_method_10_code 1 = .ok (.invokestatic 62, 3) := by decide +kernel
theorem d_T_call_4 : decode prog_1_method_10_code 4 = .ok (.ifCond .ne 5, 3) := by decide +kernel
theorem d_T_call_7 : decode prog_1_method_10_code 7 = .ok (.iconst (-1), 1) := by decide +kernel
theorem d_T_call_8 : decode prog_1_method_10_code 8 = .ok (.ireturn, 1) := by decide +kernel
theorem d_T_call_9 : decode prog_1_method_10_code 9 = .ok (.aload_n 0, 1) := by decide +kernel
theorem d_T_call_10 : decode prog_1_method_10_code 10 = .ok (.getfield 16, 3) := by decide +kernel
theorem d_T_call_13 : decode prog_1_method_10_code 13 = .ok (.iload_n 1, 1) := by decide +kernel
theorem d_T_call_14 : decode prog_1_method_10_code 14 = .ok (.iconst 3, 1) := by decide +kernel
theorem d_T_call_15 : decode prog_1_method_10_code 15 = .ok (.imul, 1) := by decide +kernel
theorem d_T_call_16 : decode prog_1_method_10_code 16 = .ok (.iload_n 3, 1) := by decide +kernel
theorem d_T_call_17 : decode prog_1_method_10_code 17 = .ok (.iastore, 1) := by decide +kernel
theorem d_T_call_18 : decode prog_1_method_10_code 18 = .ok (.aload_n 0, 1) := by decide +kernel
theorem d_T_call_19 : decode prog_1_method_10_code 19 = .ok (.getfield 16, 3) := by decide +kernel
theorem d_T_call_22 : decode prog_1_method_10_code 22 = .ok (.iload_n 1, 1) := by decide +kernel
theorem d_T_call_23 : decode prog_1_method_10_code 23 = .ok (.iconst 3, 1) := by decide +kernel
theorem d_T_call_24 : decode prog_1_method_10_code 24 = .ok (.imul, 1) := by decide +kernel
theorem d_T_call_25 : decode prog_1_method_10_code 25 = .ok (.iconst 1, 1) := by decide +kernel
theorem d_T_call_26 : decode prog_1_method_10_code 26 = .ok (.iadd, 1) := by decide +kernel
theorem d_T_call_27 : decode prog_1_method_10_code 27 = .ok (.iload 4, 2) := by decide +kernel
theorem d_T_call_29 : decode prog_1_method_10_code 29 = .ok (.iastore, 1) := by decide +kernel
theorem d_T_call_30 : decode prog_1_method_10_code 30 = .ok (.aload_n 0, 1) := by decide +kernel
theorem d_T_call_31 : decode prog_1_method_10_code 31 = .ok (.getfield 16, 3) := by decide +kernel
theorem d_T_call_34 : decode prog_1_method_10_code 34 = .ok (.iload_n 1, 1) := by decide +kernel
theorem d_T_call_35 : decode prog_1_method_10_code 35 = .ok (.iconst 3, 1) := by decide +kernel
theorem d_T_call_36 : decode prog_1_method_10_code 36 = .ok (.imul, 1) := by decide +kernel
theorem d_T_call_37 : decode prog_1_method_10_code 37 = .ok (.iconst 2, 1) := by decide +kernel
theorem d_T_call_38 : decode prog_1_method_10_code 38 = .ok (.iadd, 1) := by decide +kernel
theorem d_T_call_39 : decode prog_1_method_10_code 39 = .ok (.iload 5, 2) := by decide +kernel
theorem d_T_call_41 : decode prog_1_method_10_code 41 = .ok (.iastore, 1) := by decide +kernel
theorem d_T_call_42 : decode prog_1_method_10_code 42 = .ok (.aload_n 0, 1) := by decide +kernel
theorem d_T_call_43 : decode prog_1_method_10_code 43 = .ok (.iload_n 1, 1) := by decide +kernel
theorem d_T_call_44 : decode prog_1_method_10_code 44 = .ok (.iload_n 2, 1) := by decide +kernel
theorem d_T_call_45 : decode prog_1_method_10_code 45 = .ok (.invokevirtual 87, 3) := by decide +kernel
theorem d_T_call_48 : decode prog_1_method_10_code 48 = .ok (.ireturn, 1) := by decide +kernel
def k_T_call_0 (G : oG) (Post : oP) : oK := o_iload 1 <| o_callS G m_T_isProcess 1 <| o_jmp G m_T_call Post 4 [0, 1, 2, 3, 4, 5]
theorem s_T_call_0 {G : oG} {Post : oP} : oS G m_T_call Post 0 (k_T_call_0 G Post) := by
  unfold k_T_call_0
  refine so_iload_n d_T_call_0 rfl ?_
  refine so_callS f_T_isProcess w_229 w_228 (by decide) (by decide) d_T_call_1 ?_
  exact so_jmp
def k_T_call_4 (G : oG) (Post : oP) : oK := o_ifne (o_jmp G m_T_call Post 9 [0, 1, 2, 3, 4, 5]) (o_iconst (-1) <| o_iret Post)
theorem s_T_call_4 {G : oG} {Post : oP} : oS G m_T_call Post 4 (k_T_call_4 G Post) := by
  unfold k_T_call_4
  refine so_ifne d_T_call_4 (tgt := 9) (by decide) ?_ ?_
  · exact so_jmp
  · refine so_iconst d_T_call_7 rfl ?_
    exact so_iret d_T_call_8 rfl
def k_T_call_9 (G : oG) (Post : oP) : oK := o_aload 0 <| o_getf 6 1 <| o_iload 1 <| o_iconst 3 <| o_imul <| o_iload 3 <| o_iast <| o_aload 0 <| o_getf 6 1 <| o_iload 1 <| o_iconst 3 <| o_imul <| o_iconst 1 <| o_iadd <| o_iload 4 <| o_iast <| o_aload 0 <| o_getf 6 1 <| o_iload 1 <| o_iconst 3 <| o_imul <| o_iconst 2 <| o_iadd <| o_iload 5 <| o_iast <| o_aload 0 <| o_iload 1 <| o_iload 2 <| o_callV G 6 m_T_trap 2 <| o_jmp G m_T_call Post 48 []
theorem s_T_call_9 {G : oG} {Post : oP} : oS G m_T_call Post 9 (k_T_call_9 G Post) := by
  unfold k_T_call_9
  refine so_aload_n d_T_call_9 rfl ?_
  refine so_getf cl_6 (k := 1) (by decide) w_197 d_T_call_10 ?_
  refine so_iload_n d_T_call_13 rfl ?_
  refine so_iconst d_T_call_14 rfl ?_
  refine so_imul d_T_call_15 ?_
  refine so_iload_n d_T_call_16 rfl ?_
  refine so_iast d_T_call_17 ?_
  refine so_aload_n d_T_call_18 rfl ?_
  refine so_getf cl_6 (k := 1) (by decide) w_197 d_T_call_19 ?_
  refine so_iload_n d_T_call_22 rfl ?_
  refine so_iconst d_T_call_23 rfl ?_
  refine so_imul d_T_call_24 ?_
  refine so_iconst d_T_call_25 rfl ?_
  refine so_iadd d_T_call_26 ?_
  refine so_iload d_T_call_27 ?_
  refine so_iast d_T_call_29 ?_
  refine so_aload_n d_T_call_30 rfl ?_
  refine so_getf cl_6 (k := 1) (by decide) w_197 d_T_call_31 ?_
  refine so_iload_n d_T_call_34 rfl ?_
  refine so_iconst d_T_call_35 rfl ?_
  refine so_imul d_T_call_36 ?_
  refine so_iconst d_T_call_37 rfl ?_
  refine so_iadd d_T_call_38 ?_
  refine so_iload d_T_call_39 ?_
  refine so_iast d_T_call_41 ?_
  refine so_aload_n d_T_call_42 rfl ?_
  refine so_iload_n d_T_call_43 rfl ?_
  refine so_iload_n d_T_call_44 rfl ?_
  refine so_callV cl_6 f_T_trap w_268 w_269 w_527 (by decide) (by decide) d_T_call_45 ?_
  exact so_jmp
def k_T_call_48 (G : oG) (Post : oP) : oK := o_iret Post
theorem s_T_call_48 {G : oG} {Post : oP} : oS G m_T_call Post 48 (k_T_call_48 G Post) := by
  unfold k_T_call_48
  exact so_iret d_T_call_48 rfl
theorem d_T_traps_0 : decode prog_1_method_11_code 0 = .ok (.aload_n 0, 1) := by decide +kernel
theorem d_T_traps_1 : decode prog_1_method_11_code 1 = .ok (.getfield 56, 3) := by decide +kernel
theorem d_T_traps_4 : decode prog_1_method_11_code 4 = .ok (.ireturn, 1) := by decide +kernel
def k_T_traps_0 (G : oG) (Post : oP) : oK := o_aload 0 <| o_getf 6 8 <| o_iret Post
theorem s_T_traps_0 {G : oG} {Post : oP} : oS G m_T_traps Post 0 (k_T_traps_0 G Post) := by
  unfold k_T_traps_0
  refine so_aload_n d_T_traps_0 rfl ?_
  refine so_getf cl_6 (k := 8) (by decide) w_204 d_T_traps_1 ?_
  exact so_iret d_T_traps_4 rfl
theorem d_T_filesThere_0 : decode prog_1_method_44_code 0 = .ok (.iconst 0, 1) := by decide +kernel
theorem d_T_filesThere_1 : decode prog_1_method_44_code 1 = .ok (.istore_n 1, 1) := by decide +kernel
theorem d_T_filesThere_2 : decode prog_1_method_44_code 2 = .ok (.iconst 0, 1) := by decide +kernel
theorem d_T_filesThere_3 : decode prog_1_method_44_code 3 = .ok (.istore_n 2, 1) := by decide +kernel
theorem d_T_filesThere_4 : decode prog_1_method_44_code 4 = .ok (.iload_n 2, 1) := by decide +kernel
theorem d_T_filesThere_5 : decode prog_1_method_44_code 5 = .ok (.bipush 6, 2) := by decide +kernel
theorem d_T_filesThere_7 : decode prog_1_method_44_code 7 = .ok (.if_icmp .ge 20, 3) := by decide +kernel
theorem d_T_filesThere_10 : decode prog_1_method_44_code 10 = .ok (.aload_n 0, 1) := by decide +kernel
theorem d_T_filesThere_11 : decode prog_1_method_44_code 11 = .ok (.iload_n 2, 1) := by decide +kernel
theorem d_T_filesThere_12 : decode prog_1_method_44_code 12 = .ok (.invokevirtual 314, 3) := by decide +kernel
theorem d_T_filesThere_15 : decode prog_1_method_44_code 15 = .ok (.ifCond .eq 6, 3) := by decide +kernel
theorem d_T_filesThere_18 : decode prog_1_method_44_code 18 = .ok (.iinc 1 1, 3) := by decide +kernel
theorem d_T_filesThere_21 : decode prog_1_method_44_code 21 = .ok (.iinc 2 1, 3) := by decide +kernel
theorem d_T_filesThere_24 : decode prog_1_method_44_code 24 = .ok (.goto (-20), 3) := by decide +kernel
theorem d_T_filesThere_27 : decode prog_1_method_44_code 27 = .ok (.iload_n 1, 1) := by decide +kernel
theorem d_T_filesThere_28 : decode prog_1_method_44_code 28 = .ok (.ireturn, 1) := by decide +kernel
def k_T_filesThere_0 (G : oG) (Post : oP) : oK := o_iconst 0 <| o_istore 1 <| o_iconst 0 <| o_istore 2 <| o_jmp G m_T_filesThere Post 4 [0, 1, 2]
theorem s_T_filesThere_0 {G : oG} {Post : oP} : oS G m_T_filesThere Post 0 (k_T_filesThere_0 G Post) := by
  unfold k_T_filesThere_0
  refine so_iconst d_T_filesThere_0 rfl ?_
  refine so_istore_n d_T_filesThere_1 rfl (by decide) ?_
  refine so_iconst d_T_filesThere_2 rfl ?_
  refine so_istore_n d_T_filesThere_3 rfl (by decide) ?_
  exact so_jmp
def k_T_filesThere_4 (G : oG) (Post : oP) : oK := o_iload 2 <| o_iconst 6 <| o_icmpge (o_iload 1 <| o_iret Post) (o_aload 0 <| o_iload 2 <| o_callV G 6 m_T_isFileThere 1 <| o_jmp G m_T_filesThere Post 15 [0, 1, 2])
theorem s_T_filesThere_4 {G : oG} {Post : oP} : oS G m_T_filesThere Post 4 (k_T_filesThere_4 G Post) := by
  unfold k_T_filesThere_4
  refine so_iload_n d_T_filesThere_4 rfl ?_
  refine so_bipush d_T_filesThere_5 rfl ?_
  refine so_icmpge d_T_filesThere_7 (tgt := 27) (by decide) ?_ ?_
  · refine so_iload_n d_T_filesThere_27 rfl ?_
    exact so_iret d_T_filesThere_28 rfl
  · refine so_aload_n d_T_filesThere_10 rfl ?_
    refine so_iload_n d_T_filesThere_11 rfl ?_
    refine so_callV cl_6 f_T_isFileThere w_315 w_3 w_313 (by decide) (by decide) d_T_filesThere_12 ?_
    exact so_jmp
def k_T_filesThere_15 (G : oG) (Post : oP) : oK := o_ifeq (o_iinc 2 1 <| o_jmp G m_T_filesThere Post 4 [0, 1, 2]) (o_iinc 1 1 <| o_iinc 2 1 <| o_jmp G m_T_filesThere Post 4 [0, 1, 2])
theorem s_T_filesThere_15 {G : oG} {Post : oP} : oS G m_T_filesThere Post 15 (k_T_filesThere_15 G Post) := by
  unfold k_T_filesThere_15
  refine so_ifeq d_T_filesThere_15 (tgt := 21) (by decide) ?_ ?_
  · refine so_iinc d_T_filesThere_21 rfl (by decide) ?_
    refine so_goto d_T_filesThere_24 (tgt := 4) (by decide) ?_
    exact so_jmp
  · refine so_iinc d_T_filesThere_18 rfl (by decide) ?_
    refine so_iinc d_T_filesThere_21 rfl (by decide) ?_
    refine so_goto d_T_filesThere_24 (tgt := 4) (by decide) ?_
    exact so_jmp
theorem d_T_pipesThere_0 : decode prog_1_method_45_code 0 = .ok (.iconst 0, 1) := by decide +kernel
theorem d_T_pipesThere_1 : decode prog_1_method_45_code 1 = .ok (.istore_n 1, 1) := by decide +kernel
theorem d_T_pipesThere_2 : decode prog_1_method_45_code 2 = .ok (.iconst 0, 1) := by decide +kernel
theorem d_T_pipesThere_3 : decode prog_1_method_45_code 3 = .ok (.istore_n 2, 1) := by decide +kernel
theorem d_T_pipesThere_4 : decode prog_1_method_45_code 4 = .ok (.iload_n 2, 1) := by decide +kernel
theorem d_T_pipesThere_5 : decode prog_1_method_45_code 5 = .ok (.iconst 2, 1) := by decide +kernel
theorem d_T_pipesThere_6 : decode prog_1_method_45_code 6 = .ok (.if_icmp .ge 20, 3) := by decide +kernel
theorem d_T_pipesThere_9 : decode prog_1_method_45_code 9 = .ok (.aload_n 0, 1) := by decide +kernel
theorem d_T_pipesThere_10 : decode prog_1_method_45_code 10 = .ok (.iload_n 2, 1) := by decide +kernel
theorem d_T_pipesThere_11 : decode prog_1_method_45_code 11 = .ok (.invokevirtual 317, 3) := by decide +kernel
theorem d_T_pipesThere_14 : decode prog_1_method_45_code 14 = .ok (.ifCond .eq 6, 3) := by decide +kernel
theorem d_T_pipesThere_17 : decode prog_1_method_45_code 17 = .ok (.iinc 1 1, 3) := by decide +kernel
theorem d_T_pipesThere_20 : decode prog_1_method_45_code 20 = .ok (.iinc 2 1, 3) := by decide +kernel
theorem d_T_pipesThere_23 : decode prog_1_method_45_code 23 = .ok (.goto (-19), 3) := by decide +kernel
theorem d_T_pipesThere_26 : decode prog_1_method_45_code 26 = .ok (.iload_n 1, 1) := by decide +kernel
theorem d_T_pipesThere_27 : decode prog_1_method_45_code 27 = .ok (.ireturn, 1) := by decide +kernel
def k_T_pipesThere_0 (G : oG) (Post : oP) : oK := o_iconst 0 <| o_istore 1 <| o_iconst 0 <| o_istore 2 <| o_jmp G m_T_pipesThere Post 4 [0, 1, 2]
theorem s_T_pipesThere_0 {G : oG} {Post : oP} : oS G m_T_pipesThere Post 0 (k_T_pipesThere_0 G Post) := by
  unfold k_T_pipesThere_0
  refine so_iconst d_T_pipesThere_0 rfl ?_
  refine so_istore_n d_T_pipesThere_1 rfl (by decide) ?_
  refine so_iconst d_T_pipesThere_2 rfl ?_
  refine so_istore_n d_T_pipesThere_3 rfl (by decide) ?_
  exact so_jmp
def k_T_pipesThere_4 (G : oG) (Post : oP) : oK := o_iload 2 <| o_iconst 2 <| o_icmpge (o_iload 1 <| o_iret Post) (o_aload 0 <| o_iload 2 <| o_callV G 6 m_T_isPipeThere 1 <| o_jmp G m_T_pipesThere Post 14 [0, 1, 2])
theorem s_T_pipesThere_4 {G : oG} {Post : oP} : oS G m_T_pipesThere Post 4 (k_T_pipesThere_4 G Post) := by
  unfold k_T_pipesThere_4
  refine so_iload_n d_T_pipesThere_4 rfl ?_
  refine so_iconst d_T_pipesThere_5 rfl ?_
  refine so_icmpge d_T_pipesThere_6 (tgt := 26) (by decide) ?_ ?_
  · refine so_iload_n d_T_pipesThere_26 rfl ?_
    exact so_iret d_T_pipesThere_27 rfl
  · refine so_aload_n d_T_pipesThere_9 rfl ?_
    refine so_iload_n d_T_pipesThere_10 rfl ?_
    refine so_callV cl_6 f_T_isPipeThere w_488 w_21 w_486 (by decide) (by decide) d_T_pipesThere_11 ?_
    exact so_jmp
def k_T_pipesThere_14 (G : oG) (Post : oP) : oK := o_ifeq (o_iinc 2 1 <| o_jmp G m_T_pipesThere Post 4 [0, 1, 2]) (o_iinc 1 1 <| o_iinc 2 1 <| o_jmp G m_T_pipesThere Post 4 [0, 1, 2])
theorem s_T_pipesThere_14 {G : oG} {Post : oP} : oS G m_T_pipesThere Post 14 (k_T_pipesThere_14 G Post) := by
  unfold k_T_pipesThere_14
  refine so_ifeq d_T_pipesThere_14 (tgt := 20) (by decide) ?_ ?_
  · refine so_iinc d_T_pipesThere_20 rfl (by decide) ?_
    refine so_goto d_T_pipesThere_23 (tgt := 4) (by decide) ?_
    exact so_jmp
  · refine so_iinc d_T_pipesThere_17 rfl (by decide) ?_
    refine so_iinc d_T_pipesThere_20 rfl (by decide) ?_
    refine so_goto d_T_pipesThere_23 (tgt := 4) (by decide) ?_
    exact so_jmp
theorem d_T_count_0 : decode prog_1_method_12_code 0 = .ok (.iload_n 1, 1) := by decide +kernel
theorem d_T_count_1 : decode prog_1_method_12_code 1 = .ok (.tableswitch 57 0 3 #[31, 36, 44, 52], 31) := by decide +kernel
theorem d_T_count_32 : decode prog_1_method_12_code 32 = .ok (.aload_n 0, 1) := by decide +kernel
theorem d_T_count_33 : decode prog_1_method_12_code 33 = .ok (.invokevirtual 90, 3) := by decide +kernel
theorem d_T_count_36 : decode prog_1_method_12_code 36 = .ok (.ireturn, 1) := by decide +kernel
theorem d_T_count_37 : decode prog_1_method_12_code 37 = .ok (.aload_n 0, 1) := by decide +kernel
theorem d_T_count_38 : decode prog_1_method_12_code 38 = .ok (.getfield 23, 3) := by decide +kernel
theorem d_T_count_41 : decode prog_1_method_12_code 41 = .ok (.getfield 94, 3) := by decide +kernel
theorem d_T_count_44 : decode prog_1_method_12_code 44 = .ok (.ireturn, 1) := by decide +kernel
theorem d_T_count_45 : decode prog_1_method_12_code 45 = .ok (.aload_n 0, 1) := by decide +kernel
theorem d_T_count_46 : decode prog_1_method_12_code 46 = .ok (.getfield 30, 3) := by decide +kernel
theorem d_T_count_49 : decode prog_1_method_12_code 49 = .ok (.invokevirtual 97, 3) := by decide +kernel
theorem d_T_count_52 : decode prog_1_method_12_code 52 = .ok (.ireturn, 1) := by decide +kernel
theorem d_T_count_53 : decode prog_1_method_12_code 53 = .ok (.aload_n 0, 1) := by decide +kernel
theorem d_T_count_54 : decode prog_1_method_12_code 54 = .ok (.invokevirtual 100, 3) := by decide +kernel
theorem d_T_count_57 : decode prog_1_method_12_code 57 = .ok (.ireturn, 1) := by decide +kernel
theorem d_T_count_58 : decode prog_1_method_12_code 58 = .ok (.iconst (-1), 1) := by decide +kernel
theorem d_T_count_59 : decode prog_1_method_12_code 59 = .ok (.ireturn, 1) := by decide +kernel
def k_T_count_0 (G : oG) (Post : oP) : oK := o_iload 1 <| o_tsw G m_T_count Post 0 [32, 37, 45, 53] 58 [0]
theorem s_T_count_0 {G : oG} {Post : oP} : oS G m_T_count Post 0 (k_T_count_0 G Post) := by
  unfold k_T_count_0
  refine so_iload_n d_T_count_0 rfl ?_
  exact so_tsw d_T_count_1 (by decide) (by decide) (by decide)
def k_T_count_32 (G : oG) (Post : oP) : oK := o_aload 0 <| o_callV G 6 m_T_filesThere 0 <| o_jmp G m_T_count Post 36 []
theorem s_T_count_32 {G : oG} {Post : oP} : oS G m_T_count Post 32 (k_T_count_32 G Post) := by
  unfold k_T_count_32
  refine so_aload_n d_T_count_32 rfl ?_
  refine so_callV cl_6 f_T_filesThere w_538 w_28 w_536 (by decide) (by decide) d_T_count_33 ?_
  exact so_jmp
def k_T_count_36 (G : oG) (Post : oP) : oK := o_iret Post
theorem s_T_count_36 {G : oG} {Post : oP} : oS G m_T_count Post 36 (k_T_count_36 G Post) := by
  unfold k_T_count_36
  exact so_iret d_T_count_36 rfl
def k_T_count_37 (G : oG) (Post : oP) : oK := o_aload 0 <| o_getf 6 2 <| o_getf 1 2 <| o_iret Post
theorem s_T_count_37 {G : oG} {Post : oP} : oS G m_T_count Post 37 (k_T_count_37 G Post) := by
  unfold k_T_count_37
  refine so_aload_n d_T_count_37 rfl ?_
  refine so_getf cl_6 (k := 2) (by decide) w_198 d_T_count_38 ?_
  refine so_getfN cl_1 (k := 2) (by decide) w_116 d_T_count_41 ?_
  exact so_iret d_T_count_44 rfl
def k_T_count_45 (G : oG) (Post : oP) : oK := o_aload 0 <| o_getf 6 3 <| o_callV G 2 m_O_there 0 <| o_jmp G m_T_count Post 52 []
theorem s_T_count_45 {G : oG} {Post : oP} : oS G m_T_count Post 45 (k_T_count_45 G Post) := by
  unfold k_T_count_45
  refine so_aload_n d_T_count_45 rfl ?_
  refine so_getf cl_6 (k := 3) (by decide) w_199 d_T_count_46 ?_
  refine so_callV cl_2 f_O_there w_541 w_542 w_540 (by decide) (by decide) d_T_count_49 ?_
  exact so_jmp
def k_T_count_52 (G : oG) (Post : oP) : oK := o_iret Post
theorem s_T_count_52 {G : oG} {Post : oP} : oS G m_T_count Post 52 (k_T_count_52 G Post) := by
  unfold k_T_count_52
  exact so_iret d_T_count_52 rfl
def k_T_count_53 (G : oG) (Post : oP) : oK := o_aload 0 <| o_callV G 6 m_T_pipesThere 0 <| o_jmp G m_T_count Post 57 []
theorem s_T_count_53 {G : oG} {Post : oP} : oS G m_T_count Post 53 (k_T_count_53 G Post) := by
  unfold k_T_count_53
  refine so_aload_n d_T_count_53 rfl ?_
  refine so_callV cl_6 f_T_pipesThere w_546 w_29 w_544 (by decide) (by decide) d_T_count_54 ?_
  exact so_jmp
def k_T_count_57 (G : oG) (Post : oP) : oK := o_iret Post
theorem s_T_count_57 {G : oG} {Post : oP} : oS G m_T_count Post 57 (k_T_count_57 G Post) := by
  unfold k_T_count_57
  exact so_iret d_T_count_57 rfl
def k_T_count_58 (G : oG) (Post : oP) : oK := o_iconst (-1) <| o_iret Post
theorem s_T_count_58 {G : oG} {Post : oP} : oS G m_T_count Post 58 (k_T_count_58 G Post) := by
  unfold k_T_count_58
  refine so_iconst d_T_count_58 rfl ?_
  exact so_iret d_T_count_59 rfl
theorem d_T_descriptors_0 : decode prog_1_method_13_code 0 = .ok (.iload_n 1, 1) := by decide +kernel
theorem d_T_descriptors_1 : decode prog_1_method_13_code 1 = .ok (.invokestatic 62, 3) := by decide +kernel
theorem d_T_descriptors_4 : decode prog_1_method_13_code 4 = .ok (.ifCond .eq 14, 3) := by decide +kernel
theorem d_T_descriptors_7 : decode prog_1_method_13_code 7 = .ok (.aload_n 0, 1) := by decide +kernel
theorem d_T_descriptors_8 : decode prog_1_method_13_code 8 = .ok (.getfield 30, 3) := by decide +kernel
theorem d_T_descriptors_11 : decode prog_1_method_13_code 11 = .ok (.iload_n 1, 1) := by decide +kernel
theorem d_T_descriptors_12 : decode prog_1_method_13_code 12 = .ok (.invokevirtual 103, 3) := by decide +kernel
theorem d_T_descriptors_15 : decode prog_1_method_13_code 15 = .ok (.goto 4, 3) := by decide +kernel
theorem d_T_descriptors_18 : decode prog_1_method_13_code 18 = .ok (.iconst (-1), 1) := by decide +kernel
theorem d_T_descriptors_19 : decode prog_1_method_13_code 19 = .ok (.ireturn, 1) := by decide +kernel
def k_T_descriptors_0 (G : oG) (Post : oP) : oK := o_iload 1 <| o_callS G m_T_isProcess 1 <| o_jmp G m_T_descriptors Post 4 [0, 1]
theorem s_T_descriptors_0 {G : oG} {Post : oP} : oS G m_T_descriptors Post 0 (k_T_descriptors_0 G Post) := by
  unfold k_T_descriptors_0
  refine so_iload_n d_T_descriptors_0 rfl ?_
  refine so_callS f_T_isProcess w_229 w_228 (by decide) (by decide) d_T_descriptors_1 ?_
  exact so_jmp
def k_T_descriptors_4 (G : oG) (Post : oP) : oK := o_ifeq (o_iconst (-1) <| o_iret Post) (o_aload 0 <| o_getf 6 3 <| o_iload 1 <| o_callV G 2 m_O_descriptorsOf 1 <| o_jmp G m_T_descriptors Post 15 [])
theorem s_T_descriptors_4 {G : oG} {Post : oP} : oS G m_T_descriptors Post 4 (k_T_descriptors_4 G Post) := by
  unfold k_T_descriptors_4
  refine so_ifeq d_T_descriptors_4 (tgt := 18) (by decide) ?_ ?_
  · refine so_iconst d_T_descriptors_18 rfl ?_
    exact so_iret d_T_descriptors_19 rfl
  · refine so_aload_n d_T_descriptors_7 rfl ?_
    refine so_getf cl_6 (k := 3) (by decide) w_199 d_T_descriptors_8 ?_
    refine so_iload_n d_T_descriptors_11 rfl ?_
    refine so_callV cl_2 f_O_descriptorsOf w_553 w_554 w_552 (by decide) (by decide) d_T_descriptors_12 ?_
    exact so_jmp
def k_T_descriptors_15 (G : oG) (Post : oP) : oK := o_iret Post
theorem s_T_descriptors_15 {G : oG} {Post : oP} : oS G m_T_descriptors Post 15 (k_T_descriptors_15 G Post) := by
  unfold k_T_descriptors_15
  refine so_goto d_T_descriptors_15 (tgt := 19) (by decide) ?_
  exact so_iret d_T_descriptors_19 rfl
