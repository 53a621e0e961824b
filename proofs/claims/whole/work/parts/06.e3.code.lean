/-! code in blocks, by program -/
theorem d_X_call_0 : decode prog_9_method_12_code 0 = .ok (.iload_n 1, 1) := by decide +kernel
theorem d_X_call_1 : decode prog_9_method_12_code 1 = .ok (.invokestatic 77, 3) := by decide +kernel
theorem d_X_call_4 : decode prog_9_method_12_code 4 = .ok (.ifCond .ne 5, 3) := by decide +kernel
theorem d_X_call_7 : decode prog_9_method_12_code 7 = .ok (.iconst (-1), 1) := by decide +kernel
theorem d_X_call_8 : decode prog_9_method_12_code 8 = .ok (.ireturn, 1) := by decide +kernel
theorem d_X_call_9 : decode prog_9_method_12_code 9 = .ok (.aload_n 0, 1) := by decide +kernel
theorem d_X_call_10 : decode prog_9_method_12_code 10 = .ok (.getfield 19, 3) := by decide +kernel
theorem d_X_call_13 : decode prog_9_method_12_code 13 = .ok (.iconst 3, 1) := by decide +kernel
theorem d_X_call_14 : decode prog_9_method_12_code 14 = .ok (.iload_n 1, 1) := by decide +kernel
theorem d_X_call_15 : decode prog_9_method_12_code 15 = .ok (.imul, 1) := by decide +kernel
theorem d_X_call_16 : decode prog_9_method_12_code 16 = .ok (.iload_n 3, 1) := by decide +kernel
theorem d_X_call_17 : decode prog_9_method_12_code 17 = .ok (.iastore, 1) := by decide +kernel
theorem d_X_call_18 : decode prog_9_method_12_code 18 = .ok (.aload_n 0, 1) := by decide +kernel
theorem d_X_call_19 : decode prog_9_method_12_code 19 = .ok (.getfield 19, 3) := by decide +kernel
theorem d_X_call_22 : decode prog_9_method_12_code 22 = .ok (.iconst 3, 1) := by decide +kernel
theorem d_X_call_23 : decode prog_9_method_12_code 23 = .ok (.iload_n 1, 1) := by decide +kernel
theorem d_X_call_24 : decode prog_9_method_12_code 24 = .ok (.imul, 1) := by decide +kernel
theorem d_X_call_25 : decode prog_9_method_12_code 25 = .ok (.iconst 1, 1) := by decide +kernel
theorem d_X_call_26 : decode prog_9_method_12_code 26 = .ok (.iadd, 1) := by decide +kernel
theorem d_X_call_27 : decode prog_9_method_12_code 27 = .ok (.iload 4, 2) := by decide +kernel
theorem d_X_call_29 : decode prog_9_method_12_code 29 = .ok (.iastore, 1) := by decide +kernel
theorem d_X_call_30 : decode prog_9_method_12_code 30 = .ok (.aload_n 0, 1) := by decide +kernel
theorem d_X_call_31 : decode prog_9_method_12_code 31 = .ok (.getfield 19, 3) := by decide +kernel
theorem d_X_call_34 : decode prog_9_method_12_code 34 = .ok (.iconst 3, 1) := by decide +kernel
theorem d_X_call_35 : decode prog_9_method_12_code 35 = .ok (.iload_n 1, 1) := by decide +kernel
theorem d_X_call_36 : decode prog_9_method_12_code 36 = .ok (.imul, 1) := by decide +kernel
theorem d_X_call_37 : decode prog_9_method_12_code 37 = .ok (.iconst 2, 1) := by decide +kernel
theorem d_X_call_38 : decode prog_9_method_12_code 38 = .ok (.iadd, 1) := by decide +kernel
theorem d_X_call_39 : decode prog_9_method_12_code 39 = .ok (.iload 5, 2) := by decide +kernel
theorem d_X_call_41 : decode prog_9_method_12_code 41 = .ok (.iastore, 1) := by decide +kernel
theorem d_X_call_42 : decode prog_9_method_12_code 42 = .ok (.aload_n 0, 1) := by decide +kernel
theorem d_X_call_43 : decode prog_9_method_12_code 43 = .ok (.iload_n 1, 1) := by decide +kernel
theorem d_X_call_44 : decode prog_9_method_12_code 44 = .ok (.iload_n 2, 1) := by decide +kernel
theorem d_X_call_45 : decode prog_9_method_12_code 45 = .ok (.invokevirtual 88, 3) := by decide +kernel
theorem d_X_call_48 : decode prog_9_method_12_code 48 = .ok (.ireturn, 1) := by decide +kernel
def k_X_call_0 (G : oG) (Post : oP) : oK := o_iload 1 <| o_callS G m_X_isProcess 1 <| o_jmp G m_X_call Post 4 [0, 1, 2, 3, 4, 5]
theorem s_X_call_0 {G : oG} {Post : oP} : oS G m_X_call Post 0 (k_X_call_0 G Post) := by
  unfold k_X_call_0
  refine so_iload_n d_X_call_0 rfl ?_
  refine so_callS f_X_isProcess w_656 w_655 (by decide) (by decide) d_X_call_1 ?_
  exact so_jmp
def k_X_call_4 (G : oG) (Post : oP) : oK := o_ifne (o_jmp G m_X_call Post 9 [0, 1, 2, 3, 4, 5]) (o_iconst (-1) <| o_iret Post)
theorem s_X_call_4 {G : oG} {Post : oP} : oS G m_X_call Post 4 (k_X_call_4 G Post) := by
  unfold k_X_call_4
  refine so_ifne d_X_call_4 (tgt := 9) (by decide) ?_ ?_
  · exact so_jmp
  · refine so_iconst d_X_call_7 rfl ?_
    exact so_iret d_X_call_8 rfl
def k_X_call_9 (G : oG) (Post : oP) : oK := o_aload 0 <| o_getf 7 3 <| o_iconst 3 <| o_iload 1 <| o_imul <| o_iload 3 <| o_iast <| o_aload 0 <| o_getf 7 3 <| o_iconst 3 <| o_iload 1 <| o_imul <| o_iconst 1 <| o_iadd <| o_iload 4 <| o_iast <| o_aload 0 <| o_getf 7 3 <| o_iconst 3 <| o_iload 1 <| o_imul <| o_iconst 2 <| o_iadd <| o_iload 5 <| o_iast <| o_aload 0 <| o_iload 1 <| o_iload 2 <| o_callV G 7 m_X_trap 2 <| o_jmp G m_X_call Post 48 []
theorem s_X_call_9 {G : oG} {Post : oP} : oS G m_X_call Post 9 (k_X_call_9 G Post) := by
  unfold k_X_call_9
  refine so_aload_n d_X_call_9 rfl ?_
  refine so_getf cl_7 (k := 3) (by decide) w_565 d_X_call_10 ?_
  refine so_iconst d_X_call_13 rfl ?_
  refine so_iload_n d_X_call_14 rfl ?_
  refine so_imul d_X_call_15 ?_
  refine so_iload_n d_X_call_16 rfl ?_
  refine so_iast d_X_call_17 ?_
  refine so_aload_n d_X_call_18 rfl ?_
  refine so_getf cl_7 (k := 3) (by decide) w_565 d_X_call_19 ?_
  refine so_iconst d_X_call_22 rfl ?_
  refine so_iload_n d_X_call_23 rfl ?_
  refine so_imul d_X_call_24 ?_
  refine so_iconst d_X_call_25 rfl ?_
  refine so_iadd d_X_call_26 ?_
  refine so_iload d_X_call_27 ?_
  refine so_iast d_X_call_29 ?_
  refine so_aload_n d_X_call_30 rfl ?_
  refine so_getf cl_7 (k := 3) (by decide) w_565 d_X_call_31 ?_
  refine so_iconst d_X_call_34 rfl ?_
  refine so_iload_n d_X_call_35 rfl ?_
  refine so_imul d_X_call_36 ?_
  refine so_iconst d_X_call_37 rfl ?_
  refine so_iadd d_X_call_38 ?_
  refine so_iload d_X_call_39 ?_
  refine so_iast d_X_call_41 ?_
  refine so_aload_n d_X_call_42 rfl ?_
  refine so_iload_n d_X_call_43 rfl ?_
  refine so_iload_n d_X_call_44 rfl ?_
  refine so_callV cl_7 f_X_trap w_690 w_691 w_689 (by decide) (by decide) d_X_call_45 ?_
  exact so_jmp
def k_X_call_48 (G : oG) (Post : oP) : oK := o_iret Post
theorem s_X_call_48 {G : oG} {Post : oP} : oS G m_X_call Post 48 (k_X_call_48 G Post) := by
  unfold k_X_call_48
  exact so_iret d_X_call_48 rfl
theorem d_X_traps_0 : decode prog_9_method_16_code 0 = .ok (.aload_n 0, 1) := by decide +kernel
theorem d_X_traps_1 : decode prog_9_method_16_code 1 = .ok (.getfield 115, 3) := by decide +kernel
theorem d_X_traps_4 : decode prog_9_method_16_code 4 = .ok (.ireturn, 1) := by decide +kernel
def k_X_traps_0 (G : oG) (Post : oP) : oK := o_aload 0 <| o_getf 7 4 <| o_iret Post
theorem s_X_traps_0 {G : oG} {Post : oP} : oS G m_X_traps Post 0 (k_X_traps_0 G Post) := by
  unfold k_X_traps_0
  refine so_aload_n d_X_traps_0 rfl ?_
  refine so_getf cl_7 (k := 4) (by decide) w_566 d_X_traps_1 ?_
  exact so_iret d_X_traps_4 rfl
