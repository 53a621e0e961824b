/-! code in blocks, by program -/
theorem d_T_seek_0 : decode prog_1_method_21_code 0 = .ok (.aload_n 0, 1) := by decide +kernel
theorem d_T_seek_1 : decode prog_1_method_21_code 1 = .ok (.getfield 30, 3) := by decide +kernel
theorem d_T_seek_4 : decode prog_1_method_21_code 4 = .ok (.iload_n 1, 1) := by decide +kernel
theorem d_T_seek_5 : decode prog_1_method_21_code 5 = .ok (.iload_n 2, 1) := by decide +kernel
theorem d_T_seek_6 : decode prog_1_method_21_code 6 = .ok (.invokevirtual 193, 3) := by decide +kernel
theorem d_T_seek_9 : decode prog_1_method_21_code 9 = .ok (.istore 4, 2) := by decide +kernel
theorem d_T_seek_11 : decode prog_1_method_21_code 11 = .ok (.iload 4, 2) := by decide +kernel
theorem d_T_seek_13 : decode prog_1_method_21_code 13 = .ok (.iconst (-1), 1) := by decide +kernel
theorem d_T_seek_14 : decode prog_1_method_21_code 14 = .ok (.if_icmp .ne 6, 3) := by decide +kernel
theorem d_T_seek_17 : decode prog_1_method_21_code 17 = .ok (.bipush (-9), 2) := by decide +kernel
theorem d_T_seek_19 : decode prog_1_method_21_code 19 = .ok (.ireturn, 1) := by decide +kernel
theorem d_T_seek_20 : decode prog_1_method_21_code 20 = .ok (.aload_n 0, 1) := by decide +kernel
theorem d_T_seek_21 : decode prog_1_method_21_code 21 = .ok (.getfield 30, 3) := by decide +kernel
theorem d_T_seek_24 : decode prog_1_method_21_code 24 = .ok (.iload 4, 2) := by decide +kernel
theorem d_T_seek_26 : decode prog_1_method_21_code 26 = .ok (.invokevirtual 200, 3) := by decide +kernel
theorem d_T_seek_29 : decode prog_1_method_21_code 29 = .ok (.ifCond .eq 6, 3) := by decide +kernel
theorem d_T_seek_32 : decode prog_1_method_21_code 32 = .ok (.bipush (-29), 2) := by decide +kernel
theorem d_T_seek_34 : decode prog_1_method_21_code 34 = .ok (.ireturn, 1) := by decide +kernel
theorem d_T_seek_35 : decode prog_1_method_21_code 35 = .ok (.iload_n 3, 1) := by decide +kernel
theorem d_T_seek_36 : decode prog_1_method_21_code 36 = .ok (.ifCond .lt 9, 3) := by decide +kernel
theorem d_T_seek_39 : decode prog_1_method_21_code 39 = .ok (.iload_n 3, 1) := by decide +kernel
theorem d_T_seek_40 : decode prog_1_method_21_code 40 = .ok (.bipush 24, 2) := by decide +kernel
theorem d_T_seek_42 : decode prog_1_method_21_code 42 = .ok (.if_icmp .le 6, 3) := by decide +kernel
theorem d_T_seek_45 : decode prog_1_method_21_code 45 = .ok (.bipush (-22), 2) := by decide +kernel
theorem d_T_seek_47 : decode prog_1_method_21_code 47 = .ok (.ireturn, 1) := by decide +kernel
theorem d_T_seek_48 : decode prog_1_method_21_code 48 = .ok (.aload_n 0, 1) := by decide +kernel
theorem d_T_seek_49 : decode prog_1_method_21_code 49 = .ok (.getfield 30, 3) := by decide +kernel
theorem d_T_seek_52 : decode prog_1_method_21_code 52 = .ok (.getfield 203, 3) := by decide +kernel
theorem d_T_seek_55 : decode prog_1_method_21_code 55 = .ok (.iload 4, 2) := by decide +kernel
theorem d_T_seek_57 : decode prog_1_method_21_code 57 = .ok (.iload_n 3, 1) := by decide +kernel
theorem d_T_seek_58 : decode prog_1_method_21_code 58 = .ok (.iastore, 1) := by decide +kernel
theorem d_T_seek_59 : decode prog_1_method_21_code 59 = .ok (.iload_n 3, 1) := by decide +kernel
theorem d_T_seek_60 : decode prog_1_method_21_code 60 = .ok (.ireturn, 1) := by decide +kernel
def k_T_seek_0 (G : oG) (Post : oP) : oK := o_aload 0 <| o_getf 6 3 <| o_iload 1 <| o_iload 2 <| o_callV G 2 m_O_at 2 <| o_jmp G m_T_seek Post 9 [0, 3]
theorem s_T_seek_0 {G : oG} {Post : oP} : oS G m_T_seek Post 0 (k_T_seek_0 G Post) := by
  unfold k_T_seek_0
  refine so_aload_n d_T_seek_0 rfl ?_
  refine so_getf cl_6 (k := 3) (by decide) w_199 d_T_seek_1 ?_
  refine so_iload_n d_T_seek_4 rfl ?_
  refine so_iload_n d_T_seek_5 rfl ?_
  refine so_callV cl_2 f_O_at w_346 w_347 w_345 (by decide) (by decide) d_T_seek_6 ?_
  exact so_jmp
def k_T_seek_9 (G : oG) (Post : oP) : oK := o_istore 4 <| o_iload 4 <| o_iconst (-1) <| o_icmpne (o_aload 0 <| o_getf 6 3 <| o_iload 4 <| o_callV G 2 m_O_isOfPipe 1 <| o_jmp G m_T_seek Post 29 [0, 3, 4]) (o_iconst (-9) <| o_iret Post)
theorem s_T_seek_9 {G : oG} {Post : oP} : oS G m_T_seek Post 9 (k_T_seek_9 G Post) := by
  unfold k_T_seek_9
  refine so_istore d_T_seek_9 (by decide) ?_
  refine so_iload d_T_seek_11 ?_
  refine so_iconst d_T_seek_13 rfl ?_
  refine so_icmpne d_T_seek_14 (tgt := 20) (by decide) ?_ ?_
  · refine so_aload_n d_T_seek_20 rfl ?_
    refine so_getf cl_6 (k := 3) (by decide) w_199 d_T_seek_21 ?_
    refine so_iload d_T_seek_24 ?_
    refine so_callV cl_2 f_O_isOfPipe w_387 w_388 w_386 (by decide) (by decide) d_T_seek_26 ?_
    exact so_jmp
  · refine so_bipush d_T_seek_17 rfl ?_
    exact so_iret d_T_seek_19 rfl
def k_T_seek_29 (G : oG) (Post : oP) : oK := o_ifeq (o_jmp G m_T_seek Post 35 [0, 3, 4]) (o_iconst (-29) <| o_iret Post)
theorem s_T_seek_29 {G : oG} {Post : oP} : oS G m_T_seek Post 29 (k_T_seek_29 G Post) := by
  unfold k_T_seek_29
  refine so_ifeq d_T_seek_29 (tgt := 35) (by decide) ?_ ?_
  · exact so_jmp
  · refine so_bipush d_T_seek_32 rfl ?_
    exact so_iret d_T_seek_34 rfl
def k_T_seek_35 (G : oG) (Post : oP) : oK := o_iload 3 <| o_iflt (o_iconst (-22) <| o_iret Post) (o_iload 3 <| o_iconst 24 <| o_icmple (o_aload 0 <| o_getf 6 3 <| o_getf 2 4 <| o_iload 4 <| o_iload 3 <| o_iast <| o_iload 3 <| o_iret Post) (o_iconst (-22) <| o_iret Post))
theorem s_T_seek_35 {G : oG} {Post : oP} : oS G m_T_seek Post 35 (k_T_seek_35 G Post) := by
  unfold k_T_seek_35
  refine so_iload_n d_T_seek_35 rfl ?_
  refine so_iflt d_T_seek_36 (tgt := 45) (by decide) ?_ ?_
  · refine so_bipush d_T_seek_45 rfl ?_
    exact so_iret d_T_seek_47 rfl
  · refine so_iload_n d_T_seek_39 rfl ?_
    refine so_bipush d_T_seek_40 rfl ?_
    refine so_icmple d_T_seek_42 (tgt := 48) (by decide) ?_ ?_
    · refine so_aload_n d_T_seek_48 rfl ?_
      refine so_getf cl_6 (k := 3) (by decide) w_199 d_T_seek_49 ?_
      refine so_getfN cl_2 (k := 4) (by decide) w_138 d_T_seek_52 ?_
      refine so_iload d_T_seek_55 ?_
      refine so_iload_n d_T_seek_57 rfl ?_
      refine so_iast d_T_seek_58 ?_
      refine so_iload_n d_T_seek_59 rfl ?_
      exact so_iret d_T_seek_60 rfl
    · refine so_bipush d_T_seek_45 rfl ?_
      exact so_iret d_T_seek_47 rfl
theorem d_T_duplicate_0 : decode prog_1_method_20_code 0 = .ok (.aload_n 0, 1) := by decide +kernel
theorem d_T_duplicate_1 : decode prog_1_method_20_code 1 = .ok (.getfield 30, 3) := by decide +kernel
theorem d_T_duplicate_4 : decode prog_1_method_20_code 4 = .ok (.iload_n 1, 1) := by decide +kernel
theorem d_T_duplicate_5 : decode prog_1_method_20_code 5 = .ok (.iload_n 2, 1) := by decide +kernel
theorem d_T_duplicate_6 : decode prog_1_method_20_code 6 = .ok (.invokevirtual 193, 3) := by decide +kernel
theorem d_T_duplicate_9 : decode prog_1_method_20_code 9 = .ok (.istore_n 3, 1) := by decide +kernel
theorem d_T_duplicate_10 : decode prog_1_method_20_code 10 = .ok (.iload_n 3, 1) := by decide +kernel
theorem d_T_duplicate_11 : decode prog_1_method_20_code 11 = .ok (.iconst (-1), 1) := by decide +kernel
theorem d_T_duplicate_12 : decode prog_1_method_20_code 12 = .ok (.if_icmp .ne 6, 3) := by decide +kernel
theorem d_T_duplicate_15 : decode prog_1_method_20_code 15 = .ok (.bipush (-9), 2) := by decide +kernel
theorem d_T_duplicate_17 : decode prog_1_method_20_code 17 = .ok (.ireturn, 1) := by decide +kernel
theorem d_T_duplicate_18 : decode prog_1_method_20_code 18 = .ok (.aload_n 0, 1) := by decide +kernel
theorem d_T_duplicate_19 : decode prog_1_method_20_code 19 = .ok (.getfield 30, 3) := by decide +kernel
theorem d_T_duplicate_22 : decode prog_1_method_20_code 22 = .ok (.iload_n 1, 1) := by decide +kernel
theorem d_T_duplicate_23 : decode prog_1_method_20_code 23 = .ok (.iconst 0, 1) := by decide +kernel
theorem d_T_duplicate_24 : decode prog_1_method_20_code 24 = .ok (.invokevirtual 165, 3) := by decide +kernel
theorem d_T_duplicate_27 : decode prog_1_method_20_code 27 = .ok (.istore 4, 2) := by decide +kernel
theorem d_T_duplicate_29 : decode prog_1_method_20_code 29 = .ok (.iload 4, 2) := by decide +kernel
theorem d_T_duplicate_31 : decode prog_1_method_20_code 31 = .ok (.iconst (-1), 1) := by decide +kernel
theorem d_T_duplicate_32 : decode prog_1_method_20_code 32 = .ok (.if_icmp .ne 6, 3) := by decide +kernel
theorem d_T_duplicate_35 : decode prog_1_method_20_code 35 = .ok (.bipush (-24), 2) := by decide +kernel
theorem d_T_duplicate_37 : decode prog_1_method_20_code 37 = .ok (.ireturn, 1) := by decide +kernel
theorem d_T_duplicate_38 : decode prog_1_method_20_code 38 = .ok (.aload_n 0, 1) := by decide +kernel
theorem d_T_duplicate_39 : decode prog_1_method_20_code 39 = .ok (.getfield 30, 3) := by decide +kernel
theorem d_T_duplicate_42 : decode prog_1_method_20_code 42 = .ok (.iload_n 1, 1) := by decide +kernel
theorem d_T_duplicate_43 : decode prog_1_method_20_code 43 = .ok (.iload 4, 2) := by decide +kernel
theorem d_T_duplicate_45 : decode prog_1_method_20_code 45 = .ok (.iload_n 3, 1) := by decide +kernel
theorem d_T_duplicate_46 : decode prog_1_method_20_code 46 = .ok (.invokevirtual 190, 3) := by decide +kernel
theorem d_T_duplicate_49 : decode prog_1_method_20_code 49 = .ok (.iload 4, 2) := by decide +kernel
theorem d_T_duplicate_51 : decode prog_1_method_20_code 51 = .ok (.ireturn, 1) := by decide +kernel
def k_T_duplicate_0 (G : oG) (Post : oP) : oK := o_aload 0 <| o_getf 6 3 <| o_iload 1 <| o_iload 2 <| o_callV G 2 m_O_at 2 <| o_jmp G m_T_duplicate Post 9 [0, 1]
theorem s_T_duplicate_0 {G : oG} {Post : oP} : oS G m_T_duplicate Post 0 (k_T_duplicate_0 G Post) := by
  unfold k_T_duplicate_0
  refine so_aload_n d_T_duplicate_0 rfl ?_
  refine so_getf cl_6 (k := 3) (by decide) w_199 d_T_duplicate_1 ?_
  refine so_iload_n d_T_duplicate_4 rfl ?_
  refine so_iload_n d_T_duplicate_5 rfl ?_
  refine so_callV cl_2 f_O_at w_346 w_347 w_345 (by decide) (by decide) d_T_duplicate_6 ?_
  exact so_jmp
def k_T_duplicate_9 (G : oG) (Post : oP) : oK := o_istore 3 <| o_iload 3 <| o_iconst (-1) <| o_icmpne (o_aload 0 <| o_getf 6 3 <| o_iload 1 <| o_iconst 0 <| o_callV G 2 m_O_leastClosed 2 <| o_jmp G m_T_duplicate Post 27 [0, 1, 3]) (o_iconst (-9) <| o_iret Post)
theorem s_T_duplicate_9 {G : oG} {Post : oP} : oS G m_T_duplicate Post 9 (k_T_duplicate_9 G Post) := by
  unfold k_T_duplicate_9
  refine so_istore_n d_T_duplicate_9 rfl (by decide) ?_
  refine so_iload_n d_T_duplicate_10 rfl ?_
  refine so_iconst d_T_duplicate_11 rfl ?_
  refine so_icmpne d_T_duplicate_12 (tgt := 18) (by decide) ?_ ?_
  · refine so_aload_n d_T_duplicate_18 rfl ?_
    refine so_getf cl_6 (k := 3) (by decide) w_199 d_T_duplicate_19 ?_
    refine so_iload_n d_T_duplicate_22 rfl ?_
    refine so_iconst d_T_duplicate_23 rfl ?_
    refine so_callV cl_2 f_O_leastClosed w_302 w_303 w_301 (by decide) (by decide) d_T_duplicate_24 ?_
    exact so_jmp
  · refine so_bipush d_T_duplicate_15 rfl ?_
    exact so_iret d_T_duplicate_17 rfl
def k_T_duplicate_27 (G : oG) (Post : oP) : oK := o_istore 4 <| o_iload 4 <| o_iconst (-1) <| o_icmpne (o_aload 0 <| o_getf 6 3 <| o_iload 1 <| o_iload 4 <| o_iload 3 <| o_callV G 2 m_O_attach 3 <| o_jmp G m_T_duplicate Post 49 [4]) (o_iconst (-24) <| o_iret Post)
theorem s_T_duplicate_27 {G : oG} {Post : oP} : oS G m_T_duplicate Post 27 (k_T_duplicate_27 G Post) := by
  unfold k_T_duplicate_27
  refine so_istore d_T_duplicate_27 (by decide) ?_
  refine so_iload d_T_duplicate_29 ?_
  refine so_iconst d_T_duplicate_31 rfl ?_
  refine so_icmpne d_T_duplicate_32 (tgt := 38) (by decide) ?_ ?_
  · refine so_aload_n d_T_duplicate_38 rfl ?_
    refine so_getf cl_6 (k := 3) (by decide) w_199 d_T_duplicate_39 ?_
    refine so_iload_n d_T_duplicate_42 rfl ?_
    refine so_iload d_T_duplicate_43 ?_
    refine so_iload_n d_T_duplicate_45 rfl ?_
    refine so_callV cl_2 f_O_attach w_338 w_339 w_337 (by decide) (by decide) d_T_duplicate_46 ?_
    exact so_jmp
  · refine so_bipush d_T_duplicate_35 rfl ?_
    exact so_iret d_T_duplicate_37 rfl
def k_T_duplicate_49 (G : oG) (Post : oP) : oK := o_iload 4 <| o_iret Post
theorem s_T_duplicate_49 {G : oG} {Post : oP} : oS G m_T_duplicate Post 49 (k_T_duplicate_49 G Post) := by
  unfold k_T_duplicate_49
  refine so_iload d_T_duplicate_49 ?_
  exact so_iret d_T_duplicate_51 rfl
theorem d_T_unlink_0 : decode prog_1_method_34_code 0 = .ok (.aload_n 0, 1) := by decide +kernel
theorem d_T_unlink_1 : decode prog_1_method_34_code 1 = .ok (.getfield 12, 3) := by decide +kernel
theorem d_T_unlink_4 : decode prog_1_method_34_code 4 = .ok (.iload_n 1, 1) := by decide +kernel
theorem d_T_unlink_5 : decode prog_1_method_34_code 5 = .ok (.iload_n 2, 1) := by decide +kernel
theorem d_T_unlink_6 : decode prog_1_method_34_code 6 = .ok (.invokevirtual 155, 3) := by decide +kernel
theorem d_T_unlink_9 : decode prog_1_method_34_code 9 = .ok (.lstore_n 3, 1) := by decide +kernel
theorem d_T_unlink_10 : decode prog_1_method_34_code 10 = .ok (.lload_n 3, 1) := by decide +kernel
theorem d_T_unlink_11 : decode prog_1_method_34_code 11 = .ok (.ldc2_w 159, 3) := by decide +kernel
theorem d_T_unlink_14 : decode prog_1_method_34_code 14 = .ok (.lcmp, 1) := by decide +kernel
theorem d_T_unlink_15 : decode prog_1_method_34_code 15 = .ok (.ifCond .ne 6, 3) := by decide +kernel
theorem d_T_unlink_18 : decode prog_1_method_34_code 18 = .ok (.bipush (-14), 2) := by decide +kernel
theorem d_T_unlink_20 : decode prog_1_method_34_code 20 = .ok (.ireturn, 1) := by decide +kernel
theorem d_T_unlink_21 : decode prog_1_method_34_code 21 = .ok (.aload_n 0, 1) := by decide +kernel
theorem d_T_unlink_22 : decode prog_1_method_34_code 22 = .ok (.getfield 23, 3) := by decide +kernel
theorem d_T_unlink_25 : decode prog_1_method_34_code 25 = .ok (.lload_n 3, 1) := by decide +kernel
theorem d_T_unlink_26 : decode prog_1_method_34_code 26 = .ok (.invokevirtual 161, 3) := by decide +kernel
theorem d_T_unlink_29 : decode prog_1_method_34_code 29 = .ok (.istore 5, 2) := by decide +kernel
theorem d_T_unlink_31 : decode prog_1_method_34_code 31 = .ok (.iload 5, 2) := by decide +kernel
theorem d_T_unlink_33 : decode prog_1_method_34_code 33 = .ok (.iconst (-1), 1) := by decide +kernel
theorem d_T_unlink_34 : decode prog_1_method_34_code 34 = .ok (.if_icmp .ne 6, 3) := by decide +kernel
theorem d_T_unlink_37 : decode prog_1_method_34_code 37 = .ok (.bipush (-2), 2) := by decide +kernel
theorem d_T_unlink_39 : decode prog_1_method_34_code 39 = .ok (.ireturn, 1) := by decide +kernel
theorem d_T_unlink_40 : decode prog_1_method_34_code 40 = .ok (.aload_n 0, 1) := by decide +kernel
theorem d_T_unlink_41 : decode prog_1_method_34_code 41 = .ok (.getfield 23, 3) := by decide +kernel
theorem d_T_unlink_44 : decode prog_1_method_34_code 44 = .ok (.iload 5, 2) := by decide +kernel
theorem d_T_unlink_46 : decode prog_1_method_34_code 46 = .ok (.invokevirtual 294, 3) := by decide +kernel
theorem d_T_unlink_49 : decode prog_1_method_34_code 49 = .ok (.iconst 0, 1) := by decide +kernel
theorem d_T_unlink_50 : decode prog_1_method_34_code 50 = .ok (.ireturn, 1) := by decide +kernel
def k_T_unlink_0 (G : oG) (Post : oP) : oK := o_aload 0 <| o_getf 6 0 <| o_iload 1 <| o_iload 2 <| o_callV G 0 m_M_textAt 2 <| o_jmp G m_T_unlink Post 9 [0]
theorem s_T_unlink_0 {G : oG} {Post : oP} : oS G m_T_unlink Post 0 (k_T_unlink_0 G Post) := by
  unfold k_T_unlink_0
  refine so_aload_n d_T_unlink_0 rfl ?_
  refine so_getf cl_6 (k := 0) (by decide) w_196 d_T_unlink_1 ?_
  refine so_iload_n d_T_unlink_4 rfl ?_
  refine so_iload_n d_T_unlink_5 rfl ?_
  refine so_callV cl_0 f_M_textAt w_283 w_284 w_282 (by decide) (by decide) d_T_unlink_6 ?_
  exact so_jmp
def k_T_unlink_9 (G : oG) (Post : oP) : oK := o_lstore 3 <| o_lload 3 <| o_lconst (-1) <| o_lcmp <| o_ifne (o_aload 0 <| o_getf 6 2 <| o_lload 3 <| o_callV G 1 m_N_find 1 <| o_jmp G m_T_unlink Post 29 [0]) (o_iconst (-14) <| o_iret Post)
theorem s_T_unlink_9 {G : oG} {Post : oP} : oS G m_T_unlink Post 9 (k_T_unlink_9 G Post) := by
  unfold k_T_unlink_9
  refine so_lstore_n d_T_unlink_9 rfl (by decide) ?_
  refine so_lload_n d_T_unlink_10 rfl ?_
  refine so_ldc2 w_296 d_T_unlink_11 ?_
  refine so_lcmp d_T_unlink_14 ?_
  refine so_ifne d_T_unlink_15 (tgt := 21) (by decide) ?_ ?_
  · refine so_aload_n d_T_unlink_21 rfl ?_
    refine so_getf cl_6 (k := 2) (by decide) w_198 d_T_unlink_22 ?_
    refine so_lload_n d_T_unlink_25 rfl ?_
    refine so_callV cl_1 f_N_find w_298 w_299 w_297 (by decide) (by decide) d_T_unlink_26 ?_
    exact so_jmp
  · refine so_bipush d_T_unlink_18 rfl ?_
    exact so_iret d_T_unlink_20 rfl
def k_T_unlink_29 (G : oG) (Post : oP) : oK := o_istore 5 <| o_iload 5 <| o_iconst (-1) <| o_icmpne (o_aload 0 <| o_getf 6 2 <| o_iload 5 <| o_callV G 1 m_N_remove 1 <| o_jmp G m_T_unlink Post 49 []) (o_iconst (-2) <| o_iret Post)
theorem s_T_unlink_29 {G : oG} {Post : oP} : oS G m_T_unlink Post 29 (k_T_unlink_29 G Post) := by
  unfold k_T_unlink_29
  refine so_istore d_T_unlink_29 (by decide) ?_
  refine so_iload d_T_unlink_31 ?_
  refine so_iconst d_T_unlink_33 rfl ?_
  refine so_icmpne d_T_unlink_34 (tgt := 40) (by decide) ?_ ?_
  · refine so_aload_n d_T_unlink_40 rfl ?_
    refine so_getf cl_6 (k := 2) (by decide) w_198 d_T_unlink_41 ?_
    refine so_iload d_T_unlink_44 ?_
    refine so_callV cl_1 f_N_remove w_467 w_468 w_466 (by decide) (by decide) d_T_unlink_46 ?_
    exact so_jmp
  · refine so_bipush d_T_unlink_37 rfl ?_
    exact so_iret d_T_unlink_39 rfl
def k_T_unlink_49 (G : oG) (Post : oP) : oK := o_iconst 0 <| o_iret Post
theorem s_T_unlink_49 {G : oG} {Post : oP} : oS G m_T_unlink Post 49 (k_T_unlink_49 G Post) := by
  unfold k_T_unlink_49
  refine so_iconst d_T_unlink_49 rfl ?_
  exact so_iret d_T_unlink_50 rfl
theorem d_T_link_0 : decode prog_1_method_35_code 0 = .ok (.aload_n 0, 1) := by decide +kernel
theorem d_T_link_1 : decode prog_1_method_35_code 1 = .ok (.getfield 12, 3) := by decide +kernel
theorem d_T_link_4 : decode prog_1_method_35_code 4 = .ok (.iload_n 1, 1) := by decide +kernel
theorem d_T_link_5 : decode prog_1_method_35_code 5 = .ok (.iload_n 2, 1) := by decide +kernel
theorem d_T_link_6 : decode prog_1_method_35_code 6 = .ok (.invokevirtual 155, 3) := by decide +kernel
theorem d_T_link_9 : decode prog_1_method_35_code 9 = .ok (.lstore 4, 2) := by decide +kernel
theorem d_T_link_11 : decode prog_1_method_35_code 11 = .ok (.aload_n 0, 1) := by decide +kernel
theorem d_T_link_12 : decode prog_1_method_35_code 12 = .ok (.getfield 12, 3) := by decide +kernel
theorem d_T_link_15 : decode prog_1_method_35_code 15 = .ok (.iload_n 1, 1) := by decide +kernel
theorem d_T_link_16 : decode prog_1_method_35_code 16 = .ok (.iload_n 3, 1) := by decide +kernel
theorem d_T_link_17 : decode prog_1_method_35_code 17 = .ok (.invokevirtual 155, 3) := by decide +kernel
theorem d_T_link_20 : decode prog_1_method_35_code 20 = .ok (.lstore 6, 2) := by decide +kernel
theorem d_T_link_22 : decode prog_1_method_35_code 22 = .ok (.lload 4, 2) := by decide +kernel
theorem d_T_link_24 : decode prog_1_method_35_code 24 = .ok (.ldc2_w 159, 3) := by decide +kernel
theorem d_T_link_27 : decode prog_1_method_35_code 27 = .ok (.lcmp, 1) := by decide +kernel
theorem d_T_link_28 : decode prog_1_method_35_code 28 = .ok (.ifCond .eq 12, 3) := by decide +kernel
theorem d_T_link_31 : decode prog_1_method_35_code 31 = .ok (.lload 6, 2) := by decide +kernel
theorem d_T_link_33 : decode prog_1_method_35_code 33 = .ok (.ldc2_w 159, 3) := by decide +kernel
theorem d_T_link_36 : decode prog_1_method_35_code 36 = .ok (.lcmp, 1) := by decide +kernel
theorem d_T_link_37 : decode prog_1_method_35_code 37 = .ok (.ifCond .ne 6, 3) := by decide +kernel
theorem d_T_link_40 : decode prog_1_method_35_code 40 = .ok (.bipush (-14), 2) := by decide +kernel
theorem d_T_link_42 : decode prog_1_method_35_code 42 = .ok (.ireturn, 1) := by decide +kernel
theorem d_T_link_43 : decode prog_1_method_35_code 43 = .ok (.aload_n 0, 1) := by decide +kernel
theorem d_T_link_44 : decode prog_1_method_35_code 44 = .ok (.getfield 23, 3) := by decide +kernel
theorem d_T_link_47 : decode prog_1_method_35_code 47 = .ok (.lload 4, 2) := by decide +kernel
theorem d_T_link_49 : decode prog_1_method_35_code 49 = .ok (.invokevirtual 161, 3) := by decide +kernel
theorem d_T_link_52 : decode prog_1_method_35_code 52 = .ok (.istore 8, 2) := by decide +kernel
theorem d_T_link_54 : decode prog_1_method_35_code 54 = .ok (.iload 8, 2) := by decide +kernel
theorem d_T_link_56 : decode prog_1_method_35_code 56 = .ok (.iconst (-1), 1) := by decide +kernel
theorem d_T_link_57 : decode prog_1_method_35_code 57 = .ok (.if_icmp .eq 10, 3) := by decide +kernel
theorem d_T_link_60 : decode prog_1_method_35_code 60 = .ok (.lload 6, 2) := by decide +kernel
theorem d_T_link_62 : decode prog_1_method_35_code 62 = .ok (.lconst 0, 1) := by decide +kernel
theorem d_T_link_63 : decode prog_1_method_35_code 63 = .ok (.lcmp, 1) := by decide +kernel
theorem d_T_link_64 : decode prog_1_method_35_code 64 = .ok (.ifCond .ne 6, 3) := by decide +kernel
theorem d_T_link_67 : decode prog_1_method_35_code 67 = .ok (.bipush (-2), 2) := by decide +kernel
theorem d_T_link_69 : decode prog_1_method_35_code 69 = .ok (.ireturn, 1) := by decide +kernel
theorem d_T_link_70 : decode prog_1_method_35_code 70 = .ok (.aload_n 0, 1) := by decide +kernel
theorem d_T_link_71 : decode prog_1_method_35_code 71 = .ok (.getfield 23, 3) := by decide +kernel
theorem d_T_link_74 : decode prog_1_method_35_code 74 = .ok (.lload 6, 2) := by decide +kernel
theorem d_T_link_76 : decode prog_1_method_35_code 76 = .ok (.invokevirtual 161, 3) := by decide +kernel
theorem d_T_link_79 : decode prog_1_method_35_code 79 = .ok (.iconst (-1), 1) := by decide +kernel
theorem d_T_link_80 : decode prog_1_method_35_code 80 = .ok (.if_icmp .eq 6, 3) := by decide +kernel
theorem d_T_link_83 : decode prog_1_method_35_code 83 = .ok (.bipush (-17), 2) := by decide +kernel
theorem d_T_link_85 : decode prog_1_method_35_code 85 = .ok (.ireturn, 1) := by decide +kernel
theorem d_T_link_86 : decode prog_1_method_35_code 86 = .ok (.aload_n 0, 1) := by decide +kernel
theorem d_T_link_87 : decode prog_1_method_35_code 87 = .ok (.getfield 23, 3) := by decide +kernel
theorem d_T_link_90 : decode prog_1_method_35_code 90 = .ok (.invokevirtual 176, 3) := by decide +kernel
theorem d_T_link_93 : decode prog_1_method_35_code 93 = .ok (.ifCond .eq 6, 3) := by decide +kernel
theorem d_T_link_96 : decode prog_1_method_35_code 96 = .ok (.bipush (-28), 2) := by decide +kernel
theorem d_T_link_98 : decode prog_1_method_35_code 98 = .ok (.ireturn, 1) := by decide +kernel
theorem d_T_link_99 : decode prog_1_method_35_code 99 = .ok (.aload_n 0, 1) := by decide +kernel
theorem d_T_link_100 : decode prog_1_method_35_code 100 = .ok (.getfield 23, 3) := by decide +kernel
theorem d_T_link_103 : decode prog_1_method_35_code 103 = .ok (.lload 6, 2) := by decide +kernel
theorem d_T_link_105 : decode prog_1_method_35_code 105 = .ok (.aload_n 0, 1) := by decide +kernel
theorem d_T_link_106 : decode prog_1_method_35_code 106 = .ok (.getfield 23, 3) := by decide +kernel
theorem d_T_link_109 : decode prog_1_method_35_code 109 = .ok (.getfield 174, 3) := by decide +kernel
theorem d_T_link_112 : decode prog_1_method_35_code 112 = .ok (.iload 8, 2) := by decide +kernel
theorem d_T_link_114 : decode prog_1_method_35_code 114 = .ok (.iaload, 1) := by decide +kernel
theorem d_T_link_115 : decode prog_1_method_35_code 115 = .ok (.invokevirtual 180, 3) := by decide +kernel
theorem d_T_link_118 : decode prog_1_method_35_code 118 = .ok (.iconst 0, 1) := by decide +kernel
theorem d_T_link_119 : decode prog_1_method_35_code 119 = .ok (.ireturn, 1) := by decide +kernel
def k_T_link_0 (G : oG) (Post : oP) : oK := o_aload 0 <| o_getf 6 0 <| o_iload 1 <| o_iload 2 <| o_callV G 0 m_M_textAt 2 <| o_jmp G m_T_link Post 9 [0, 1, 3]
theorem s_T_link_0 {G : oG} {Post : oP} : oS G m_T_link Post 0 (k_T_link_0 G Post) := by
  unfold k_T_link_0
  refine so_aload_n d_T_link_0 rfl ?_
  refine so_getf cl_6 (k := 0) (by decide) w_196 d_T_link_1 ?_
  refine so_iload_n d_T_link_4 rfl ?_
  refine so_iload_n d_T_link_5 rfl ?_
  refine so_callV cl_0 f_M_textAt w_283 w_284 w_282 (by decide) (by decide) d_T_link_6 ?_
  exact so_jmp
def k_T_link_9 (G : oG) (Post : oP) : oK := o_lstore 4 <| o_aload 0 <| o_getf 6 0 <| o_iload 1 <| o_iload 3 <| o_callV G 0 m_M_textAt 2 <| o_jmp G m_T_link Post 20 [0, 4]
theorem s_T_link_9 {G : oG} {Post : oP} : oS G m_T_link Post 9 (k_T_link_9 G Post) := by
  unfold k_T_link_9
  refine so_lstore d_T_link_9 (by decide) ?_
  refine so_aload_n d_T_link_11 rfl ?_
  refine so_getf cl_6 (k := 0) (by decide) w_196 d_T_link_12 ?_
  refine so_iload_n d_T_link_15 rfl ?_
  refine so_iload_n d_T_link_16 rfl ?_
  refine so_callV cl_0 f_M_textAt w_283 w_284 w_282 (by decide) (by decide) d_T_link_17 ?_
  exact so_jmp
def k_T_link_20 (G : oG) (Post : oP) : oK := o_lstore 6 <| o_lload 4 <| o_lconst (-1) <| o_lcmp <| o_ifeq (o_iconst (-14) <| o_iret Post) (o_lload 6 <| o_lconst (-1) <| o_lcmp <| o_ifne (o_aload 0 <| o_getf 6 2 <| o_lload 4 <| o_callV G 1 m_N_find 1 <| o_jmp G m_T_link Post 52 [0, 6]) (o_iconst (-14) <| o_iret Post))
theorem s_T_link_20 {G : oG} {Post : oP} : oS G m_T_link Post 20 (k_T_link_20 G Post) := by
  unfold k_T_link_20
  refine so_lstore d_T_link_20 (by decide) ?_
  refine so_lload d_T_link_22 ?_
  refine so_ldc2 w_296 d_T_link_24 ?_
  refine so_lcmp d_T_link_27 ?_
  refine so_ifeq d_T_link_28 (tgt := 40) (by decide) ?_ ?_
  · refine so_bipush d_T_link_40 rfl ?_
    exact so_iret d_T_link_42 rfl
  · refine so_lload d_T_link_31 ?_
    refine so_ldc2 w_296 d_T_link_33 ?_
    refine so_lcmp d_T_link_36 ?_
    refine so_ifne d_T_link_37 (tgt := 43) (by decide) ?_ ?_
    · refine so_aload_n d_T_link_43 rfl ?_
      refine so_getf cl_6 (k := 2) (by decide) w_198 d_T_link_44 ?_
      refine so_lload d_T_link_47 ?_
      refine so_callV cl_1 f_N_find w_298 w_299 w_297 (by decide) (by decide) d_T_link_49 ?_
      exact so_jmp
    · refine so_bipush d_T_link_40 rfl ?_
      exact so_iret d_T_link_42 rfl
def k_T_link_52 (G : oG) (Post : oP) : oK := o_istore 8 <| o_iload 8 <| o_iconst (-1) <| o_icmpeq (o_iconst (-2) <| o_iret Post) (o_lload 6 <| o_lconst 0 <| o_lcmp <| o_ifne (o_aload 0 <| o_getf 6 2 <| o_lload 6 <| o_callV G 1 m_N_find 1 <| o_jmp G m_T_link Post 79 [0, 6, 8]) (o_iconst (-2) <| o_iret Post))
theorem s_T_link_52 {G : oG} {Post : oP} : oS G m_T_link Post 52 (k_T_link_52 G Post) := by
  unfold k_T_link_52
  refine so_istore d_T_link_52 (by decide) ?_
  refine so_iload d_T_link_54 ?_
  refine so_iconst d_T_link_56 rfl ?_
  refine so_icmpeq d_T_link_57 (tgt := 67) (by decide) ?_ ?_
  · refine so_bipush d_T_link_67 rfl ?_
    exact so_iret d_T_link_69 rfl
  · refine so_lload d_T_link_60 ?_
    refine so_lconst d_T_link_62 rfl ?_
    refine so_lcmp d_T_link_63 ?_
    refine so_ifne d_T_link_64 (tgt := 70) (by decide) ?_ ?_
    · refine so_aload_n d_T_link_70 rfl ?_
      refine so_getf cl_6 (k := 2) (by decide) w_198 d_T_link_71 ?_
      refine so_lload d_T_link_74 ?_
      refine so_callV cl_1 f_N_find w_298 w_299 w_297 (by decide) (by decide) d_T_link_76 ?_
      exact so_jmp
    · refine so_bipush d_T_link_67 rfl ?_
      exact so_iret d_T_link_69 rfl
def k_T_link_79 (G : oG) (Post : oP) : oK := o_iconst (-1) <| o_icmpeq (o_aload 0 <| o_getf 6 2 <| o_callV G 1 m_N_isFull 0 <| o_jmp G m_T_link Post 93 [0, 6, 8]) (o_iconst (-17) <| o_iret Post)
theorem s_T_link_79 {G : oG} {Post : oP} : oS G m_T_link Post 79 (k_T_link_79 G Post) := by
  unfold k_T_link_79
  refine so_iconst d_T_link_79 rfl ?_
  refine so_icmpeq d_T_link_80 (tgt := 86) (by decide) ?_ ?_
  · refine so_aload_n d_T_link_86 rfl ?_
    refine so_getf cl_6 (k := 2) (by decide) w_198 d_T_link_87 ?_
    refine so_callV cl_1 f_N_isFull w_326 w_327 w_325 (by decide) (by decide) d_T_link_90 ?_
    exact so_jmp
  · refine so_bipush d_T_link_83 rfl ?_
    exact so_iret d_T_link_85 rfl
def k_T_link_93 (G : oG) (Post : oP) : oK := o_ifeq (o_aload 0 <| o_getf 6 2 <| o_lload 6 <| o_aload 0 <| o_getf 6 2 <| o_getf 1 1 <| o_iload 8 <| o_iald G <| o_callV G 1 m_N_add 2 <| o_jmp G m_T_link Post 118 []) (o_iconst (-28) <| o_iret Post)
theorem s_T_link_93 {G : oG} {Post : oP} : oS G m_T_link Post 93 (k_T_link_93 G Post) := by
  unfold k_T_link_93
  refine so_ifeq d_T_link_93 (tgt := 99) (by decide) ?_ ?_
  · refine so_aload_n d_T_link_99 rfl ?_
    refine so_getf cl_6 (k := 2) (by decide) w_198 d_T_link_100 ?_
    refine so_lload d_T_link_103 ?_
    refine so_aload_n d_T_link_105 rfl ?_
    refine so_getf cl_6 (k := 2) (by decide) w_198 d_T_link_106 ?_
    refine so_getfN cl_1 (k := 1) (by decide) w_114 d_T_link_109 ?_
    refine so_iload d_T_link_112 ?_
    refine so_iald d_T_link_114 ?_
    refine so_callV cl_1 f_N_add w_330 w_331 w_329 (by decide) (by decide) d_T_link_115 ?_
    exact so_jmp
  · refine so_bipush d_T_link_96 rfl ?_
    exact so_iret d_T_link_98 rfl
def k_T_link_118 (G : oG) (Post : oP) : oK := o_iconst 0 <| o_iret Post
theorem s_T_link_118 {G : oG} {Post : oP} : oS G m_T_link Post 118 (k_T_link_118 G Post) := by
  unfold k_T_link_118
  refine so_iconst d_T_link_118 rfl ?_
  exact so_iret d_T_link_119 rfl
theorem d_T_stat_0 : decode prog_1_method_37_code 0 = .ok (.aload_n 0, 1) := by decide +kernel
theorem d_T_stat_1 : decode prog_1_method_37_code 1 = .ok (.getfield 12, 3) := by decide +kernel
theorem d_T_stat_4 : decode prog_1_method_37_code 4 = .ok (.iload_n 1, 1) := by decide +kernel
theorem d_T_stat_5 : decode prog_1_method_37_code 5 = .ok (.iload_n 2, 1) := by decide +kernel
theorem d_T_stat_6 : decode prog_1_method_37_code 6 = .ok (.invokevirtual 155, 3) := by decide +kernel
theorem d_T_stat_9 : decode prog_1_method_37_code 9 = .ok (.lstore 4, 2) := by decide +kernel
theorem d_T_stat_11 : decode prog_1_method_37_code 11 = .ok (.lload 4, 2) := by decide +kernel
theorem d_T_stat_13 : decode prog_1_method_37_code 13 = .ok (.ldc2_w 159, 3) := by decide +kernel
theorem d_T_stat_16 : decode prog_1_method_37_code 16 = .ok (.lcmp, 1) := by decide +kernel
theorem d_T_stat_17 : decode prog_1_method_37_code 17 = .ok (.ifCond .eq 17, 3) := by decide +kernel
theorem d_T_stat_20 : decode prog_1_method_37_code 20 = .ok (.aload_n 0, 1) := by decide +kernel
theorem d_T_stat_21 : decode prog_1_method_37_code 21 = .ok (.getfield 12, 3) := by decide +kernel
theorem d_T_stat_24 : decode prog_1_method_37_code 24 = .ok (.iload_n 1, 1) := by decide +kernel
theorem d_T_stat_25 : decode prog_1_method_37_code 25 = .ok (.iload_n 3, 1) := by decide +kernel
theorem d_T_stat_26 : decode prog_1_method_37_code 26 = .ok (.iconst 3, 1) := by decide +kernel
theorem d_T_stat_27 : decode prog_1_method_37_code 27 = .ok (.iconst 2, 1) := by decide +kernel
theorem d_T_stat_28 : decode prog_1_method_37_code 28 = .ok (.invokevirtual 212, 3) := by decide +kernel
theorem d_T_stat_31 : decode prog_1_method_37_code 31 = .ok (.ifCond .ne 6, 3) := by decide +kernel
theorem d_T_stat_34 : decode prog_1_method_37_code 34 = .ok (.bipush (-14), 2) := by decide +kernel
theorem d_T_stat_36 : decode prog_1_method_37_code 36 = .ok (.ireturn, 1) := by decide +kernel
theorem d_T_stat_37 : decode prog_1_method_37_code 37 = .ok (.aload_n 0, 1) := by decide +kernel
theorem d_T_stat_38 : decode prog_1_method_37_code 38 = .ok (.getfield 23, 3) := by decide +kernel
theorem d_T_stat_41 : decode prog_1_method_37_code 41 = .ok (.lload 4, 2) := by decide +kernel
theorem d_T_stat_43 : decode prog_1_method_37_code 43 = .ok (.invokevirtual 161, 3) := by decide +kernel
theorem d_T_stat_46 : decode prog_1_method_37_code 46 = .ok (.istore 6, 2) := by decide +kernel
theorem d_T_stat_48 : decode prog_1_method_37_code 48 = .ok (.iload 6, 2) := by decide +kernel
theorem d_T_stat_50 : decode prog_1_method_37_code 50 = .ok (.iconst (-1), 1) := by decide +kernel
theorem d_T_stat_51 : decode prog_1_method_37_code 51 = .ok (.if_icmp .ne 6, 3) := by decide +kernel
theorem d_T_stat_54 : decode prog_1_method_37_code 54 = .ok (.bipush (-2), 2) := by decide +kernel
theorem d_T_stat_56 : decode prog_1_method_37_code 56 = .ok (.ireturn, 1) := by decide +kernel
theorem d_T_stat_57 : decode prog_1_method_37_code 57 = .ok (.aload_n 0, 1) := by decide +kernel
theorem d_T_stat_58 : decode prog_1_method_37_code 58 = .ok (.getfield 23, 3) := by decide +kernel
theorem d_T_stat_61 : decode prog_1_method_37_code 61 = .ok (.getfield 174, 3) := by decide +kernel
theorem d_T_stat_64 : decode prog_1_method_37_code 64 = .ok (.iload 6, 2) := by decide +kernel
theorem d_T_stat_66 : decode prog_1_method_37_code 66 = .ok (.iaload, 1) := by decide +kernel
theorem d_T_stat_67 : decode prog_1_method_37_code 67 = .ok (.istore 7, 2) := by decide +kernel
theorem d_T_stat_69 : decode prog_1_method_37_code 69 = .ok (.aload_n 0, 1) := by decide +kernel
theorem d_T_stat_70 : decode prog_1_method_37_code 70 = .ok (.getfield 12, 3) := by decide +kernel
theorem d_T_stat_73 : decode prog_1_method_37_code 73 = .ok (.iload_n 1, 1) := by decide +kernel
theorem d_T_stat_74 : decode prog_1_method_37_code 74 = .ok (.iload_n 3, 1) := by decide +kernel
theorem d_T_stat_75 : decode prog_1_method_37_code 75 = .ok (.aload_n 0, 1) := by decide +kernel
theorem d_T_stat_76 : decode prog_1_method_37_code 76 = .ok (.getfield 36, 3) := by decide +kernel
theorem d_T_stat_79 : decode prog_1_method_37_code 79 = .ok (.iload 7, 2) := by decide +kernel
theorem d_T_stat_81 : decode prog_1_method_37_code 81 = .ok (.aaload, 1) := by decide +kernel
theorem d_T_stat_82 : decode prog_1_method_37_code 82 = .ok (.getfield 184, 3) := by decide +kernel
theorem d_T_stat_85 : decode prog_1_method_37_code 85 = .ok (.invokevirtual 291, 3) := by decide +kernel
theorem d_T_stat_88 : decode prog_1_method_37_code 88 = .ok (.aload_n 0, 1) := by decide +kernel
theorem d_T_stat_89 : decode prog_1_method_37_code 89 = .ok (.getfield 12, 3) := by decide +kernel
theorem d_T_stat_92 : decode prog_1_method_37_code 92 = .ok (.iload_n 1, 1) := by decide +kernel
theorem d_T_stat_93 : decode prog_1_method_37_code 93 = .ok (.iload_n 3, 1) := by decide +kernel
theorem d_T_stat_94 : decode prog_1_method_37_code 94 = .ok (.iconst 1, 1) := by decide +kernel
theorem d_T_stat_95 : decode prog_1_method_37_code 95 = .ok (.iadd, 1) := by decide +kernel
theorem d_T_stat_96 : decode prog_1_method_37_code 96 = .ok (.aload_n 0, 1) := by decide +kernel
theorem d_T_stat_97 : decode prog_1_method_37_code 97 = .ok (.getfield 23, 3) := by decide +kernel
theorem d_T_stat_100 : decode prog_1_method_37_code 100 = .ok (.iload 7, 2) := by decide +kernel
theorem d_T_stat_102 : decode prog_1_method_37_code 102 = .ok (.invokevirtual 298, 3) := by decide +kernel
theorem d_T_stat_105 : decode prog_1_method_37_code 105 = .ok (.invokevirtual 291, 3) := by decide +kernel
theorem d_T_stat_108 : decode prog_1_method_37_code 108 = .ok (.aload_n 0, 1) := by decide +kernel
theorem d_T_stat_109 : decode prog_1_method_37_code 109 = .ok (.getfield 12, 3) := by decide +kernel
theorem d_T_stat_112 : decode prog_1_method_37_code 112 = .ok (.iload_n 1, 1) := by decide +kernel
theorem d_T_stat_113 : decode prog_1_method_37_code 113 = .ok (.iload_n 3, 1) := by decide +kernel
theorem d_T_stat_114 : decode prog_1_method_37_code 114 = .ok (.iconst 2, 1) := by decide +kernel
theorem d_T_stat_115 : decode prog_1_method_37_code 115 = .ok (.iadd, 1) := by decide +kernel
theorem d_T_stat_116 : decode prog_1_method_37_code 116 = .ok (.aload_n 0, 1) := by decide +kernel
theorem d_T_stat_117 : decode prog_1_method_37_code 117 = .ok (.getfield 30, 3) := by decide +kernel
theorem d_T_stat_120 : decode prog_1_method_37_code 120 = .ok (.iload 7, 2) := by decide +kernel
theorem d_T_stat_122 : decode prog_1_method_37_code 122 = .ok (.iconst 3, 1) := by decide +kernel
theorem d_T_stat_123 : decode prog_1_method_37_code 123 = .ok (.invokevirtual 267, 3) := by decide +kernel
theorem d_T_stat_126 : decode prog_1_method_37_code 126 = .ok (.invokevirtual 291, 3) := by decide +kernel
theorem d_T_stat_129 : decode prog_1_method_37_code 129 = .ok (.iconst 0, 1) := by decide +kernel
theorem d_T_stat_130 : decode prog_1_method_37_code 130 = .ok (.ireturn, 1) := by decide +kernel
def k_T_stat_0 (G : oG) (Post : oP) : oK := o_aload 0 <| o_getf 6 0 <| o_iload 1 <| o_iload 2 <| o_callV G 0 m_M_textAt 2 <| o_jmp G m_T_stat Post 9 [0, 1, 3]
theorem s_T_stat_0 {G : oG} {Post : oP} : oS G m_T_stat Post 0 (k_T_stat_0 G Post) := by
  unfold k_T_stat_0
  refine so_aload_n d_T_stat_0 rfl ?_
  refine so_getf cl_6 (k := 0) (by decide) w_196 d_T_stat_1 ?_
  refine so_iload_n d_T_stat_4 rfl ?_
  refine so_iload_n d_T_stat_5 rfl ?_
  refine so_callV cl_0 f_M_textAt w_283 w_284 w_282 (by decide) (by decide) d_T_stat_6 ?_
  exact so_jmp
def k_T_stat_9 (G : oG) (Post : oP) : oK := o_lstore 4 <| o_lload 4 <| o_lconst (-1) <| o_lcmp <| o_ifeq (o_iconst (-14) <| o_iret Post) (o_aload 0 <| o_getf 6 0 <| o_iload 1 <| o_iload 3 <| o_iconst 3 <| o_iconst 2 <| o_callV G 0 m_M_allows 4 <| o_jmp G m_T_stat Post 31 [0, 1, 3, 4])
theorem s_T_stat_9 {G : oG} {Post : oP} : oS G m_T_stat Post 9 (k_T_stat_9 G Post) := by
  unfold k_T_stat_9
  refine so_lstore d_T_stat_9 (by decide) ?_
  refine so_lload d_T_stat_11 ?_
  refine so_ldc2 w_296 d_T_stat_13 ?_
  refine so_lcmp d_T_stat_16 ?_
  refine so_ifeq d_T_stat_17 (tgt := 34) (by decide) ?_ ?_
  · refine so_bipush d_T_stat_34 rfl ?_
    exact so_iret d_T_stat_36 rfl
  · refine so_aload_n d_T_stat_20 rfl ?_
    refine so_getf cl_6 (k := 0) (by decide) w_196 d_T_stat_21 ?_
    refine so_iload_n d_T_stat_24 rfl ?_
    refine so_iload_n d_T_stat_25 rfl ?_
    refine so_iconst d_T_stat_26 rfl ?_
    refine so_iconst d_T_stat_27 rfl ?_
    refine so_callV cl_0 f_M_allows w_287 w_288 w_365 (by decide) (by decide) d_T_stat_28 ?_
    exact so_jmp
def k_T_stat_31 (G : oG) (Post : oP) : oK := o_ifne (o_aload 0 <| o_getf 6 2 <| o_lload 4 <| o_callV G 1 m_N_find 1 <| o_jmp G m_T_stat Post 46 [0, 1, 3]) (o_iconst (-14) <| o_iret Post)
theorem s_T_stat_31 {G : oG} {Post : oP} : oS G m_T_stat Post 31 (k_T_stat_31 G Post) := by
  unfold k_T_stat_31
  refine so_ifne d_T_stat_31 (tgt := 37) (by decide) ?_ ?_
  · refine so_aload_n d_T_stat_37 rfl ?_
    refine so_getf cl_6 (k := 2) (by decide) w_198 d_T_stat_38 ?_
    refine so_lload d_T_stat_41 ?_
    refine so_callV cl_1 f_N_find w_298 w_299 w_297 (by decide) (by decide) d_T_stat_43 ?_
    exact so_jmp
  · refine so_bipush d_T_stat_34 rfl ?_
    exact so_iret d_T_stat_36 rfl
def k_T_stat_46 (G : oG) (Post : oP) : oK := o_istore 6 <| o_iload 6 <| o_iconst (-1) <| o_icmpne (o_jmp G m_T_stat Post 57 [0, 1, 3, 6]) (o_iconst (-2) <| o_iret Post)
theorem s_T_stat_46 {G : oG} {Post : oP} : oS G m_T_stat Post 46 (k_T_stat_46 G Post) := by
  unfold k_T_stat_46
  refine so_istore d_T_stat_46 (by decide) ?_
  refine so_iload d_T_stat_48 ?_
  refine so_iconst d_T_stat_50 rfl ?_
  refine so_icmpne d_T_stat_51 (tgt := 57) (by decide) ?_ ?_
  · exact so_jmp
  · refine so_bipush d_T_stat_54 rfl ?_
    exact so_iret d_T_stat_56 rfl
def k_T_stat_57 (G : oG) (Post : oP) : oK := o_aload 0 <| o_getf 6 2 <| o_getf 1 1 <| o_iload 6 <| o_iald G <| o_istore 7 <| o_aload 0 <| o_getf 6 0 <| o_iload 1 <| o_iload 3 <| o_aload 0 <| o_getf 6 4 <| o_iload 7 <| o_aald 3 <| o_getf 5 1 <| o_callV G 0 m_M_store 3 <| o_jmp G m_T_stat Post 88 [0, 1, 3, 7]
theorem s_T_stat_57 {G : oG} {Post : oP} : oS G m_T_stat Post 57 (k_T_stat_57 G Post) := by
  unfold k_T_stat_57
  refine so_aload_n d_T_stat_57 rfl ?_
  refine so_getf cl_6 (k := 2) (by decide) w_198 d_T_stat_58 ?_
  refine so_getfN cl_1 (k := 1) (by decide) w_114 d_T_stat_61 ?_
  refine so_iload d_T_stat_64 ?_
  refine so_iald d_T_stat_66 ?_
  refine so_istore d_T_stat_67 (by decide) ?_
  refine so_aload_n d_T_stat_69 rfl ?_
  refine so_getf cl_6 (k := 0) (by decide) w_196 d_T_stat_70 ?_
  refine so_iload_n d_T_stat_73 rfl ?_
  refine so_iload_n d_T_stat_74 rfl ?_
  refine so_aload_n d_T_stat_75 rfl ?_
  refine so_getf cl_6 (k := 4) (by decide) w_200 d_T_stat_76 ?_
  refine so_iload d_T_stat_79 ?_
  refine so_aald d_T_stat_81 (tt := 3) rfl ?_
  refine so_getfN cl_5 (k := 1) (by decide) w_177 d_T_stat_82 ?_
  refine so_callV cl_0 f_M_store w_425 w_426 w_424 (by decide) (by decide) d_T_stat_85 ?_
  exact so_jmp
def k_T_stat_88 (G : oG) (Post : oP) : oK := o_aload 0 <| o_getf 6 0 <| o_iload 1 <| o_iload 3 <| o_iconst 1 <| o_iadd <| o_aload 0 <| o_getf 6 2 <| o_iload 7 <| o_callV G 1 m_N_countOf 1 <| o_jmp G m_T_stat Post 105 [0, 1, 3, 7]
theorem s_T_stat_88 {G : oG} {Post : oP} : oS G m_T_stat Post 88 (k_T_stat_88 G Post) := by
  unfold k_T_stat_88
  refine so_aload_n d_T_stat_88 rfl ?_
  refine so_getf cl_6 (k := 0) (by decide) w_196 d_T_stat_89 ?_
  refine so_iload_n d_T_stat_92 rfl ?_
  refine so_iload_n d_T_stat_93 rfl ?_
  refine so_iconst d_T_stat_94 rfl ?_
  refine so_iadd d_T_stat_95 ?_
  refine so_aload_n d_T_stat_96 rfl ?_
  refine so_getf cl_6 (k := 2) (by decide) w_198 d_T_stat_97 ?_
  refine so_iload d_T_stat_100 ?_
  refine so_callV cl_1 f_N_countOf w_318 w_319 w_317 (by decide) (by decide) d_T_stat_102 ?_
  exact so_jmp
def k_T_stat_105 (G : oG) (Post : oP) : oK := o_callV G 0 m_M_store 3 <| o_jmp G m_T_stat Post 108 [0, 1, 3, 7]
theorem s_T_stat_105 {G : oG} {Post : oP} : oS G m_T_stat Post 105 (k_T_stat_105 G Post) := by
  unfold k_T_stat_105
  refine so_callV cl_0 f_M_store w_425 w_426 w_424 (by decide) (by decide) d_T_stat_105 ?_
  exact so_jmp
def k_T_stat_108 (G : oG) (Post : oP) : oK := o_aload 0 <| o_getf 6 0 <| o_iload 1 <| o_iload 3 <| o_iconst 2 <| o_iadd <| o_aload 0 <| o_getf 6 3 <| o_iload 7 <| o_iconst 3 <| o_callV G 2 m_O_countOf 2 <| o_jmp G m_T_stat Post 126 []
theorem s_T_stat_108 {G : oG} {Post : oP} : oS G m_T_stat Post 108 (k_T_stat_108 G Post) := by
  unfold k_T_stat_108
  refine so_aload_n d_T_stat_108 rfl ?_
  refine so_getf cl_6 (k := 0) (by decide) w_196 d_T_stat_109 ?_
  refine so_iload_n d_T_stat_112 rfl ?_
  refine so_iload_n d_T_stat_113 rfl ?_
  refine so_iconst d_T_stat_114 rfl ?_
  refine so_iadd d_T_stat_115 ?_
  refine so_aload_n d_T_stat_116 rfl ?_
  refine so_getf cl_6 (k := 3) (by decide) w_199 d_T_stat_117 ?_
  refine so_iload d_T_stat_120 ?_
  refine so_iconst d_T_stat_122 rfl ?_
  refine so_callV cl_2 f_O_countOf w_322 w_323 w_321 (by decide) (by decide) d_T_stat_123 ?_
  exact so_jmp
def k_T_stat_126 (G : oG) (Post : oP) : oK := o_callV G 0 m_M_store 3 <| o_jmp G m_T_stat Post 129 []
theorem s_T_stat_126 {G : oG} {Post : oP} : oS G m_T_stat Post 126 (k_T_stat_126 G Post) := by
  unfold k_T_stat_126
  refine so_callV cl_0 f_M_store w_425 w_426 w_424 (by decide) (by decide) d_T_stat_126 ?_
  exact so_jmp
def k_T_stat_129 (G : oG) (Post : oP) : oK := o_iconst 0 <| o_iret Post
theorem s_T_stat_129 {G : oG} {Post : oP} : oS G m_T_stat Post 129 (k_T_stat_129 G Post) := by
  unfold k_T_stat_129
  refine so_iconst d_T_stat_129 rfl ?_
  exact so_iret d_T_stat_130 rfl
theorem d_T_isPipeThere_0 : decode prog_1_method_43_code 0 = .ok (.aload_n 0, 1) := by decide +kernel
theorem d_T_isPipeThere_1 : decode prog_1_method_43_code 1 = .ok (.getfield 30, 3) := by decide +kernel
theorem d_T_isPipeThere_4 : decode prog_1_method_43_code 4 = .ok (.bipush 6, 2) := by decide +kernel
theorem d_T_isPipeThere_6 : decode prog_1_method_43_code 6 = .ok (.iload_n 1, 1) := by decide +kernel
theorem d_T_isPipeThere_7 : decode prog_1_method_43_code 7 = .ok (.iadd, 1) := by decide +kernel
theorem d_T_isPipeThere_8 : decode prog_1_method_43_code 8 = .ok (.iconst 3, 1) := by decide +kernel
theorem d_T_isPipeThere_9 : decode prog_1_method_43_code 9 = .ok (.invokevirtual 267, 3) := by decide +kernel
theorem d_T_isPipeThere_12 : decode prog_1_method_43_code 12 = .ok (.ifCond .le 7, 3) := by decide +kernel
theorem d_T_isPipeThere_15 : decode prog_1_method_43_code 15 = .ok (.iconst 1, 1) := by decide +kernel
theorem d_T_isPipeThere_16 : decode prog_1_method_43_code 16 = .ok (.goto 4, 3) := by decide +kernel
theorem d_T_isPipeThere_19 : decode prog_1_method_43_code 19 = .ok (.iconst 0, 1) := by decide +kernel
theorem d_T_isPipeThere_20 : decode prog_1_method_43_code 20 = .ok (.ireturn, 1) := by decide +kernel
def k_T_isPipeThere_0 (G : oG) (Post : oP) : oK := o_aload 0 <| o_getf 6 3 <| o_iconst 6 <| o_iload 1 <| o_iadd <| o_iconst 3 <| o_callV G 2 m_O_countOf 2 <| o_jmp G m_T_isPipeThere Post 12 []
theorem s_T_isPipeThere_0 {G : oG} {Post : oP} : oS G m_T_isPipeThere Post 0 (k_T_isPipeThere_0 G Post) := by
  unfold k_T_isPipeThere_0
  refine so_aload_n d_T_isPipeThere_0 rfl ?_
  refine so_getf cl_6 (k := 3) (by decide) w_199 d_T_isPipeThere_1 ?_
  refine so_bipush d_T_isPipeThere_4 rfl ?_
  refine so_iload_n d_T_isPipeThere_6 rfl ?_
  refine so_iadd d_T_isPipeThere_7 ?_
  refine so_iconst d_T_isPipeThere_8 rfl ?_
  refine so_callV cl_2 f_O_countOf w_322 w_323 w_321 (by decide) (by decide) d_T_isPipeThere_9 ?_
  exact so_jmp
def k_T_isPipeThere_12 (G : oG) (Post : oP) : oK := o_ifle (o_iconst 0 <| o_zret Post) (o_iconst 1 <| o_zret Post)
theorem s_T_isPipeThere_12 {G : oG} {Post : oP} : oS G m_T_isPipeThere Post 12 (k_T_isPipeThere_12 G Post) := by
  unfold k_T_isPipeThere_12
  refine so_ifle d_T_isPipeThere_12 (tgt := 19) (by decide) ?_ ?_
  · refine so_iconst d_T_isPipeThere_19 rfl ?_
    exact so_zret d_T_isPipeThere_20 rfl
  · refine so_iconst d_T_isPipeThere_15 rfl ?_
    refine so_goto d_T_isPipeThere_16 (tgt := 20) (by decide) ?_
    exact so_zret d_T_isPipeThere_20 rfl
theorem d_T_leastFreePipe_0 : decode prog_1_method_47_code 0 = .ok (.iconst 0, 1) := by decide +kernel
theorem d_T_leastFreePipe_1 : decode prog_1_method_47_code 1 = .ok (.istore_n 1, 1) := by decide +kernel
theorem d_T_leastFreePipe_2 : decode prog_1_method_47_code 2 = .ok (.iload_n 1, 1) := by decide +kernel
theorem d_T_leastFreePipe_3 : decode prog_1_method_47_code 3 = .ok (.iconst 2, 1) := by decide +kernel
theorem d_T_leastFreePipe_4 : decode prog_1_method_47_code 4 = .ok (.if_icmp .ge 19, 3) := by decide +kernel
theorem d_T_leastFreePipe_7 : decode prog_1_method_47_code 7 = .ok (.aload_n 0, 1) := by decide +kernel
theorem d_T_leastFreePipe_8 : decode prog_1_method_47_code 8 = .ok (.iload_n 1, 1) := by decide +kernel
theorem d_T_leastFreePipe_9 : decode prog_1_method_47_code 9 = .ok (.invokevirtual 317, 3) := by decide +kernel
theorem d_T_leastFreePipe_12 : decode prog_1_method_47_code 12 = .ok (.ifCond .ne 5, 3) := by decide +kernel
theorem d_T_leastFreePipe_15 : decode prog_1_method_47_code 15 = .ok (.iload_n 1, 1) := by decide +kernel
theorem d_T_leastFreePipe_16 : decode prog_1_method_47_code 16 = .ok (.ireturn, 1) := by decide +kernel
theorem d_T_leastFreePipe_17 : decode prog_1_method_47_code 17 = .ok (.iinc 1 1, 3) := by decide +kernel
theorem d_T_leastFreePipe_20 : decode prog_1_method_47_code 20 = .ok (.goto (-18), 3) := by decide +kernel
theorem d_T_leastFreePipe_23 : decode prog_1_method_47_code 23 = .ok (.iconst (-1), 1) := by decide +kernel
theorem d_T_leastFreePipe_24 : decode prog_1_method_47_code 24 = .ok (.ireturn, 1) := by decide +kernel
def k_T_leastFreePipe_0 (G : oG) (Post : oP) : oK := o_iconst 0 <| o_istore 1 <| o_jmp G m_T_leastFreePipe Post 2 [0, 1]
theorem s_T_leastFreePipe_0 {G : oG} {Post : oP} : oS G m_T_leastFreePipe Post 0 (k_T_leastFreePipe_0 G Post) := by
  unfold k_T_leastFreePipe_0
  refine so_iconst d_T_leastFreePipe_0 rfl ?_
  refine so_istore_n d_T_leastFreePipe_1 rfl (by decide) ?_
  exact so_jmp
def k_T_leastFreePipe_2 (G : oG) (Post : oP) : oK := o_iload 1 <| o_iconst 2 <| o_icmpge (o_iconst (-1) <| o_iret Post) (o_aload 0 <| o_iload 1 <| o_callV G 6 m_T_isPipeThere 1 <| o_jmp G m_T_leastFreePipe Post 12 [0, 1])
theorem s_T_leastFreePipe_2 {G : oG} {Post : oP} : oS G m_T_leastFreePipe Post 2 (k_T_leastFreePipe_2 G Post) := by
  unfold k_T_leastFreePipe_2
  refine so_iload_n d_T_leastFreePipe_2 rfl ?_
  refine so_iconst d_T_leastFreePipe_3 rfl ?_
  refine so_icmpge d_T_leastFreePipe_4 (tgt := 23) (by decide) ?_ ?_
  · refine so_iconst d_T_leastFreePipe_23 rfl ?_
    exact so_iret d_T_leastFreePipe_24 rfl
  · refine so_aload_n d_T_leastFreePipe_7 rfl ?_
    refine so_iload_n d_T_leastFreePipe_8 rfl ?_
    refine so_callV cl_6 f_T_isPipeThere w_488 w_21 w_486 (by decide) (by decide) d_T_leastFreePipe_9 ?_
    exact so_jmp
def k_T_leastFreePipe_12 (G : oG) (Post : oP) : oK := o_ifne (o_iinc 1 1 <| o_jmp G m_T_leastFreePipe Post 2 [0, 1]) (o_iload 1 <| o_iret Post)
theorem s_T_leastFreePipe_12 {G : oG} {Post : oP} : oS G m_T_leastFreePipe Post 12 (k_T_leastFreePipe_12 G Post) := by
  unfold k_T_leastFreePipe_12
  refine so_ifne d_T_leastFreePipe_12 (tgt := 17) (by decide) ?_ ?_
  · refine so_iinc d_T_leastFreePipe_17 rfl (by decide) ?_
    refine so_goto d_T_leastFreePipe_20 (tgt := 2) (by decide) ?_
    exact so_jmp
  · refine so_iload_n d_T_leastFreePipe_15 rfl ?_
    exact so_iret d_T_leastFreePipe_16 rfl
theorem d_T_makePipe_0 : decode prog_1_method_38_code 0 = .ok (.aload_n 0, 1) := by decide +kernel
theorem d_T_makePipe_1 : decode prog_1_method_38_code 1 = .ok (.getfield 12, 3) := by decide +kernel
theorem d_T_makePipe_4 : decode prog_1_method_38_code 4 = .ok (.iload_n 1, 1) := by decide +kernel
theorem d_T_makePipe_5 : decode prog_1_method_38_code 5 = .ok (.iload_n 2, 1) := by decide +kernel
theorem d_T_makePipe_6 : decode prog_1_method_38_code 6 = .ok (.iconst 2, 1) := by decide +kernel
theorem d_T_makePipe_7 : decode prog_1_method_38_code 7 = .ok (.iconst 2, 1) := by decide +kernel
theorem d_T_makePipe_8 : decode prog_1_method_38_code 8 = .ok (.invokevirtual 212, 3) := by decide +kernel
theorem d_T_makePipe_11 : decode prog_1_method_38_code 11 = .ok (.ifCond .ne 6, 3) := by decide +kernel
theorem d_T_makePipe_14 : decode prog_1_method_38_code 14 = .ok (.bipush (-14), 2) := by decide +kernel
theorem d_T_makePipe_16 : decode prog_1_method_38_code 16 = .ok (.ireturn, 1) := by decide +kernel
theorem d_T_makePipe_17 : decode prog_1_method_38_code 17 = .ok (.aload_n 0, 1) := by decide +kernel
theorem d_T_makePipe_18 : decode prog_1_method_38_code 18 = .ok (.getfield 30, 3) := by decide +kernel
theorem d_T_makePipe_21 : decode prog_1_method_38_code 21 = .ok (.iload_n 1, 1) := by decide +kernel
theorem d_T_makePipe_22 : decode prog_1_method_38_code 22 = .ok (.iconst 0, 1) := by decide +kernel
theorem d_T_makePipe_23 : decode prog_1_method_38_code 23 = .ok (.invokevirtual 165, 3) := by decide +kernel
theorem d_T_makePipe_26 : decode prog_1_method_38_code 26 = .ok (.istore_n 3, 1) := by decide +kernel
theorem d_T_makePipe_27 : decode prog_1_method_38_code 27 = .ok (.aload_n 0, 1) := by decide +kernel
theorem d_T_makePipe_28 : decode prog_1_method_38_code 28 = .ok (.getfield 30, 3) := by decide +kernel
theorem d_T_makePipe_31 : decode prog_1_method_38_code 31 = .ok (.iload_n 1, 1) := by decide +kernel
theorem d_T_makePipe_32 : decode prog_1_method_38_code 32 = .ok (.iload_n 3, 1) := by decide +kernel
theorem d_T_makePipe_33 : decode prog_1_method_38_code 33 = .ok (.iconst 1, 1) := by decide +kernel
theorem d_T_makePipe_34 : decode prog_1_method_38_code 34 = .ok (.iadd, 1) := by decide +kernel
theorem d_T_makePipe_35 : decode prog_1_method_38_code 35 = .ok (.invokevirtual 165, 3) := by decide +kernel
theorem d_T_makePipe_38 : decode prog_1_method_38_code 38 = .ok (.istore 4, 2) := by decide +kernel
theorem d_T_makePipe_40 : decode prog_1_method_38_code 40 = .ok (.iload_n 3, 1) := by decide +kernel
theorem d_T_makePipe_41 : decode prog_1_method_38_code 41 = .ok (.iconst (-1), 1) := by decide +kernel
theorem d_T_makePipe_42 : decode prog_1_method_38_code 42 = .ok (.if_icmp .eq 9, 3) := by decide +kernel
theorem d_T_makePipe_45 : decode prog_1_method_38_code 45 = .ok (.iload 4, 2) := by decide +kernel
theorem d_T_makePipe_47 : decode prog_1_method_38_code 47 = .ok (.iconst (-1), 1) := by decide +kernel
theorem d_T_makePipe_48 : decode prog_1_method_38_code 48 = .ok (.if_icmp .ne 6, 3) := by decide +kernel
theorem d_T_makePipe_51 : decode prog_1_method_38_code 51 = .ok (.bipush (-24), 2) := by decide +kernel
theorem d_T_makePipe_53 : decode prog_1_method_38_code 53 = .ok (.ireturn, 1) := by decide +kernel
theorem d_T_makePipe_54 : decode prog_1_method_38_code 54 = .ok (.aload_n 0, 1) := by decide +kernel
theorem d_T_makePipe_55 : decode prog_1_method_38_code 55 = .ok (.getfield 30, 3) := by decide +kernel
theorem d_T_makePipe_58 : decode prog_1_method_38_code 58 = .ok (.iconst 0, 1) := by decide +kernel
theorem d_T_makePipe_59 : decode prog_1_method_38_code 59 = .ok (.invokevirtual 168, 3) := by decide +kernel
theorem d_T_makePipe_62 : decode prog_1_method_38_code 62 = .ok (.istore 5, 2) := by decide +kernel
theorem d_T_makePipe_64 : decode prog_1_method_38_code 64 = .ok (.aload_n 0, 1) := by decide +kernel
theorem d_T_makePipe_65 : decode prog_1_method_38_code 65 = .ok (.getfield 30, 3) := by decide +kernel
theorem d_T_makePipe_68 : decode prog_1_method_38_code 68 = .ok (.iload 5, 2) := by decide +kernel
theorem d_T_makePipe_70 : decode prog_1_method_38_code 70 = .ok (.iconst 1, 1) := by decide +kernel
theorem d_T_makePipe_71 : decode prog_1_method_38_code 71 = .ok (.iadd, 1) := by decide +kernel
theorem d_T_makePipe_72 : decode prog_1_method_38_code 72 = .ok (.invokevirtual 168, 3) := by decide +kernel
theorem d_T_makePipe_75 : decode prog_1_method_38_code 75 = .ok (.istore 6, 2) := by decide +kernel
theorem d_T_makePipe_77 : decode prog_1_method_38_code 77 = .ok (.aload_n 0, 1) := by decide +kernel
theorem d_T_makePipe_78 : decode prog_1_method_38_code 78 = .ok (.invokevirtual 300, 3) := by decide +kernel
theorem d_T_makePipe_81 : decode prog_1_method_38_code 81 = .ok (.istore 7, 2) := by decide +kernel
theorem d_T_makePipe_83 : decode prog_1_method_38_code 83 = .ok (.iload 5, 2) := by decide +kernel
theorem d_T_makePipe_85 : decode prog_1_method_38_code 85 = .ok (.iconst (-1), 1) := by decide +kernel
theorem d_T_makePipe_86 : decode prog_1_method_38_code 86 = .ok (.if_icmp .eq 15, 3) := by decide +kernel
theorem d_T_makePipe_89 : decode prog_1_method_38_code 89 = .ok (.iload 6, 2) := by decide +kernel
theorem d_T_makePipe_91 : decode prog_1_method_38_code 91 = .ok (.iconst (-1), 1) := by decide +kernel
theorem d_T_makePipe_92 : decode prog_1_method_38_code 92 = .ok (.if_icmp .eq 9, 3) := by decide +kernel
theorem d_T_makePipe_95 : decode prog_1_method_38_code 95 = .ok (.iload 7, 2) := by decide +kernel
theorem d_T_makePipe_97 : decode prog_1_method_38_code 97 = .ok (.iconst (-1), 1) := by decide +kernel
theorem d_T_makePipe_98 : decode prog_1_method_38_code 98 = .ok (.if_icmp .ne 6, 3) := by decide +kernel
theorem d_T_makePipe_101 : decode prog_1_method_38_code 101 = .ok (.bipush (-23), 2) := by decide +kernel
theorem d_T_makePipe_103 : decode prog_1_method_38_code 103 = .ok (.ireturn, 1) := by decide +kernel
theorem d_T_makePipe_104 : decode prog_1_method_38_code 104 = .ok (.aload_n 0, 1) := by decide +kernel
theorem d_T_makePipe_105 : decode prog_1_method_38_code 105 = .ok (.getfield 42, 3) := by decide +kernel
theorem d_T_makePipe_108 : decode prog_1_method_38_code 108 = .ok (.iload 7, 2) := by decide +kernel
theorem d_T_makePipe_110 : decode prog_1_method_38_code 110 = .ok (.aaload, 1) := by decide +kernel
theorem d_T_makePipe_111 : decode prog_1_method_38_code 111 = .ok (.iconst 0, 1) := by decide +kernel
theorem d_T_makePipe_112 : decode prog_1_method_38_code 112 = .ok (.putfield 266, 3) := by decide +kernel
theorem d_T_makePipe_115 : decode prog_1_method_38_code 115 = .ok (.aload_n 0, 1) := by decide +kernel
theorem d_T_makePipe_116 : decode prog_1_method_38_code 116 = .ok (.getfield 30, 3) := by decide +kernel
theorem d_T_makePipe_119 : decode prog_1_method_38_code 119 = .ok (.iload 5, 2) := by decide +kernel
theorem d_T_makePipe_121 : decode prog_1_method_38_code 121 = .ok (.bipush 6, 2) := by decide +kernel
theorem d_T_makePipe_123 : decode prog_1_method_38_code 123 = .ok (.iload 7, 2) := by decide +kernel
theorem d_T_makePipe_125 : decode prog_1_method_38_code 125 = .ok (.iadd, 1) := by decide +kernel
theorem d_T_makePipe_126 : decode prog_1_method_38_code 126 = .ok (.iconst 1, 1) := by decide +kernel
theorem d_T_makePipe_127 : decode prog_1_method_38_code 127 = .ok (.invokevirtual 187, 3) := by decide +kernel
theorem d_T_makePipe_130 : decode prog_1_method_38_code 130 = .ok (.aload_n 0, 1) := by decide +kernel
theorem d_T_makePipe_131 : decode prog_1_method_38_code 131 = .ok (.getfield 30, 3) := by decide +kernel
theorem d_T_makePipe_134 : decode prog_1_method_38_code 134 = .ok (.iload 6, 2) := by decide +kernel
theorem d_T_makePipe_136 : decode prog_1_method_38_code 136 = .ok (.bipush 6, 2) := by decide +kernel
theorem d_T_makePipe_138 : decode prog_1_method_38_code 138 = .ok (.iload 7, 2) := by decide +kernel
theorem d_T_makePipe_140 : decode prog_1_method_38_code 140 = .ok (.iadd, 1) := by decide +kernel
theorem d_T_makePipe_141 : decode prog_1_method_38_code 141 = .ok (.iconst 2, 1) := by decide +kernel
theorem d_T_makePipe_142 : decode prog_1_method_38_code 142 = .ok (.invokevirtual 187, 3) := by decide +kernel
theorem d_T_makePipe_145 : decode prog_1_method_38_code 145 = .ok (.aload_n 0, 1) := by decide +kernel
theorem d_T_makePipe_146 : decode prog_1_method_38_code 146 = .ok (.getfield 30, 3) := by decide +kernel
theorem d_T_makePipe_149 : decode prog_1_method_38_code 149 = .ok (.iload_n 1, 1) := by decide +kernel
theorem d_T_makePipe_150 : decode prog_1_method_38_code 150 = .ok (.iload_n 3, 1) := by decide +kernel
theorem d_T_makePipe_151 : decode prog_1_method_38_code 151 = .ok (.iload 5, 2) := by decide +kernel
theorem d_T_makePipe_153 : decode prog_1_method_38_code 153 = .ok (.invokevirtual 190, 3) := by decide +kernel
theorem d_T_makePipe_156 : decode prog_1_method_38_code 156 = .ok (.aload_n 0, 1) := by decide +kernel
theorem d_T_makePipe_157 : decode prog_1_method_38_code 157 = .ok (.getfield 30, 3) := by decide +kernel
theorem d_T_makePipe_160 : decode prog_1_method_38_code 160 = .ok (.iload_n 1, 1) := by decide +kernel
theorem d_T_makePipe_161 : decode prog_1_method_38_code 161 = .ok (.iload 4, 2) := by decide +kernel
theorem d_T_makePipe_163 : decode prog_1_method_38_code 163 = .ok (.iload 6, 2) := by decide +kernel
theorem d_T_makePipe_165 : decode prog_1_method_38_code 165 = .ok (.invokevirtual 190, 3) := by decide +kernel
theorem d_T_makePipe_168 : decode prog_1_method_38_code 168 = .ok (.aload_n 0, 1) := by decide +kernel
theorem d_T_makePipe_169 : decode prog_1_method_38_code 169 = .ok (.getfield 12, 3) := by decide +kernel
theorem d_T_makePipe_172 : decode prog_1_method_38_code 172 = .ok (.iload_n 1, 1) := by decide +kernel
theorem d_T_makePipe_173 : decode prog_1_method_38_code 173 = .ok (.iload_n 2, 1) := by decide +kernel
theorem d_T_makePipe_174 : decode prog_1_method_38_code 174 = .ok (.iload_n 3, 1) := by decide +kernel
theorem d_T_makePipe_175 : decode prog_1_method_38_code 175 = .ok (.invokevirtual 291, 3) := by decide +kernel
theorem d_T_makePipe_178 : decode prog_1_method_38_code 178 = .ok (.aload_n 0, 1) := by decide +kernel
theorem d_T_makePipe_179 : decode prog_1_method_38_code 179 = .ok (.getfield 12, 3) := by decide +kernel
theorem d_T_makePipe_182 : decode prog_1_method_38_code 182 = .ok (.iload_n 1, 1) := by decide +kernel
theorem d_T_makePipe_183 : decode prog_1_method_38_code 183 = .ok (.iload_n 2, 1) := by decide +kernel
theorem d_T_makePipe_184 : decode prog_1_method_38_code 184 = .ok (.iconst 1, 1) := by decide +kernel
theorem d_T_makePipe_185 : decode prog_1_method_38_code 185 = .ok (.iadd, 1) := by decide +kernel
theorem d_T_makePipe_186 : decode prog_1_method_38_code 186 = .ok (.iload 4, 2) := by decide +kernel
theorem d_T_makePipe_188 : decode prog_1_method_38_code 188 = .ok (.invokevirtual 291, 3) := by decide +kernel
theorem d_T_makePipe_191 : decode prog_1_method_38_code 191 = .ok (.iconst 0, 1) := by decide +kernel
theorem d_T_makePipe_192 : decode prog_1_method_38_code 192 = .ok (.ireturn, 1) := by decide +kernel
def k_T_makePipe_0 (G : oG) (Post : oP) : oK := o_aload 0 <| o_getf 6 0 <| o_iload 1 <| o_iload 2 <| o_iconst 2 <| o_iconst 2 <| o_callV G 0 m_M_allows 4 <| o_jmp G m_T_makePipe Post 11 [0, 1, 2]
theorem s_T_makePipe_0 {G : oG} {Post : oP} : oS G m_T_makePipe Post 0 (k_T_makePipe_0 G Post) := by
  unfold k_T_makePipe_0
  refine so_aload_n d_T_makePipe_0 rfl ?_
  refine so_getf cl_6 (k := 0) (by decide) w_196 d_T_makePipe_1 ?_
  refine so_iload_n d_T_makePipe_4 rfl ?_
  refine so_iload_n d_T_makePipe_5 rfl ?_
  refine so_iconst d_T_makePipe_6 rfl ?_
  refine so_iconst d_T_makePipe_7 rfl ?_
  refine so_callV cl_0 f_M_allows w_287 w_288 w_365 (by decide) (by decide) d_T_makePipe_8 ?_
  exact so_jmp
def k_T_makePipe_11 (G : oG) (Post : oP) : oK := o_ifne (o_aload 0 <| o_getf 6 3 <| o_iload 1 <| o_iconst 0 <| o_callV G 2 m_O_leastClosed 2 <| o_jmp G m_T_makePipe Post 26 [0, 1, 2]) (o_iconst (-14) <| o_iret Post)
theorem s_T_makePipe_11 {G : oG} {Post : oP} : oS G m_T_makePipe Post 11 (k_T_makePipe_11 G Post) := by
  unfold k_T_makePipe_11
  refine so_ifne d_T_makePipe_11 (tgt := 17) (by decide) ?_ ?_
  · refine so_aload_n d_T_makePipe_17 rfl ?_
    refine so_getf cl_6 (k := 3) (by decide) w_199 d_T_makePipe_18 ?_
    refine so_iload_n d_T_makePipe_21 rfl ?_
    refine so_iconst d_T_makePipe_22 rfl ?_
    refine so_callV cl_2 f_O_leastClosed w_302 w_303 w_301 (by decide) (by decide) d_T_makePipe_23 ?_
    exact so_jmp
  · refine so_bipush d_T_makePipe_14 rfl ?_
    exact so_iret d_T_makePipe_16 rfl
def k_T_makePipe_26 (G : oG) (Post : oP) : oK := o_istore 3 <| o_aload 0 <| o_getf 6 3 <| o_iload 1 <| o_iload 3 <| o_iconst 1 <| o_iadd <| o_callV G 2 m_O_leastClosed 2 <| o_jmp G m_T_makePipe Post 38 [0, 1, 2, 3]
theorem s_T_makePipe_26 {G : oG} {Post : oP} : oS G m_T_makePipe Post 26 (k_T_makePipe_26 G Post) := by
  unfold k_T_makePipe_26
  refine so_istore_n d_T_makePipe_26 rfl (by decide) ?_
  refine so_aload_n d_T_makePipe_27 rfl ?_
  refine so_getf cl_6 (k := 3) (by decide) w_199 d_T_makePipe_28 ?_
  refine so_iload_n d_T_makePipe_31 rfl ?_
  refine so_iload_n d_T_makePipe_32 rfl ?_
  refine so_iconst d_T_makePipe_33 rfl ?_
  refine so_iadd d_T_makePipe_34 ?_
  refine so_callV cl_2 f_O_leastClosed w_302 w_303 w_301 (by decide) (by decide) d_T_makePipe_35 ?_
  exact so_jmp
def k_T_makePipe_38 (G : oG) (Post : oP) : oK := o_istore 4 <| o_iload 3 <| o_iconst (-1) <| o_icmpeq (o_iconst (-24) <| o_iret Post) (o_iload 4 <| o_iconst (-1) <| o_icmpne (o_aload 0 <| o_getf 6 3 <| o_iconst 0 <| o_callV G 2 m_O_leastFree 1 <| o_jmp G m_T_makePipe Post 62 [0, 1, 2, 3, 4]) (o_iconst (-24) <| o_iret Post))
theorem s_T_makePipe_38 {G : oG} {Post : oP} : oS G m_T_makePipe Post 38 (k_T_makePipe_38 G Post) := by
  unfold k_T_makePipe_38
  refine so_istore d_T_makePipe_38 (by decide) ?_
  refine so_iload_n d_T_makePipe_40 rfl ?_
  refine so_iconst d_T_makePipe_41 rfl ?_
  refine so_icmpeq d_T_makePipe_42 (tgt := 51) (by decide) ?_ ?_
  · refine so_bipush d_T_makePipe_51 rfl ?_
    exact so_iret d_T_makePipe_53 rfl
  · refine so_iload d_T_makePipe_45 ?_
    refine so_iconst d_T_makePipe_47 rfl ?_
    refine so_icmpne d_T_makePipe_48 (tgt := 54) (by decide) ?_ ?_
    · refine so_aload_n d_T_makePipe_54 rfl ?_
      refine so_getf cl_6 (k := 3) (by decide) w_199 d_T_makePipe_55 ?_
      refine so_iconst d_T_makePipe_58 rfl ?_
      refine so_callV cl_2 f_O_leastFree w_306 w_307 w_305 (by decide) (by decide) d_T_makePipe_59 ?_
      exact so_jmp
    · refine so_bipush d_T_makePipe_51 rfl ?_
      exact so_iret d_T_makePipe_53 rfl
def k_T_makePipe_62 (G : oG) (Post : oP) : oK := o_istore 5 <| o_aload 0 <| o_getf 6 3 <| o_iload 5 <| o_iconst 1 <| o_iadd <| o_callV G 2 m_O_leastFree 1 <| o_jmp G m_T_makePipe Post 75 [0, 1, 2, 3, 4, 5]
theorem s_T_makePipe_62 {G : oG} {Post : oP} : oS G m_T_makePipe Post 62 (k_T_makePipe_62 G Post) := by
  unfold k_T_makePipe_62
  refine so_istore d_T_makePipe_62 (by decide) ?_
  refine so_aload_n d_T_makePipe_64 rfl ?_
  refine so_getf cl_6 (k := 3) (by decide) w_199 d_T_makePipe_65 ?_
  refine so_iload d_T_makePipe_68 ?_
  refine so_iconst d_T_makePipe_70 rfl ?_
  refine so_iadd d_T_makePipe_71 ?_
  refine so_callV cl_2 f_O_leastFree w_306 w_307 w_305 (by decide) (by decide) d_T_makePipe_72 ?_
  exact so_jmp
def k_T_makePipe_75 (G : oG) (Post : oP) : oK := o_istore 6 <| o_aload 0 <| o_callV G 6 m_T_leastFreePipe 0 <| o_jmp G m_T_makePipe Post 81 [0, 1, 2, 3, 4, 5, 6]
theorem s_T_makePipe_75 {G : oG} {Post : oP} : oS G m_T_makePipe Post 75 (k_T_makePipe_75 G Post) := by
  unfold k_T_makePipe_75
  refine so_istore d_T_makePipe_75 (by decide) ?_
  refine so_aload_n d_T_makePipe_77 rfl ?_
  refine so_callV cl_6 f_T_leastFreePipe w_484 w_20 w_482 (by decide) (by decide) d_T_makePipe_78 ?_
  exact so_jmp
def k_T_makePipe_81 (G : oG) (Post : oP) : oK := o_istore 7 <| o_iload 5 <| o_iconst (-1) <| o_icmpeq (o_iconst (-23) <| o_iret Post) (o_iload 6 <| o_iconst (-1) <| o_icmpeq (o_iconst (-23) <| o_iret Post) (o_iload 7 <| o_iconst (-1) <| o_icmpne (o_aload 0 <| o_getf 6 5 <| o_iload 7 <| o_aald 4 <| o_iconst 0 <| o_putfI 3 1 <| o_aload 0 <| o_getf 6 3 <| o_iload 5 <| o_iconst 6 <| o_iload 7 <| o_iadd <| o_iconst 1 <| o_callV G 2 m_O_make 3 <| o_jmp G m_T_makePipe Post 130 [0, 1, 2, 3, 4, 5, 6, 7]) (o_iconst (-23) <| o_iret Post)))
theorem s_T_makePipe_81 {G : oG} {Post : oP} : oS G m_T_makePipe Post 81 (k_T_makePipe_81 G Post) := by
  unfold k_T_makePipe_81
  refine so_istore d_T_makePipe_81 (by decide) ?_
  refine so_iload d_T_makePipe_83 ?_
  refine so_iconst d_T_makePipe_85 rfl ?_
  refine so_icmpeq d_T_makePipe_86 (tgt := 101) (by decide) ?_ ?_
  · refine so_bipush d_T_makePipe_101 rfl ?_
    exact so_iret d_T_makePipe_103 rfl
  · refine so_iload d_T_makePipe_89 ?_
    refine so_iconst d_T_makePipe_91 rfl ?_
    refine so_icmpeq d_T_makePipe_92 (tgt := 101) (by decide) ?_ ?_
    · refine so_bipush d_T_makePipe_101 rfl ?_
      exact so_iret d_T_makePipe_103 rfl
    · refine so_iload d_T_makePipe_95 ?_
      refine so_iconst d_T_makePipe_97 rfl ?_
      refine so_icmpne d_T_makePipe_98 (tgt := 104) (by decide) ?_ ?_
      · refine so_aload_n d_T_makePipe_104 rfl ?_
        refine so_getf cl_6 (k := 5) (by decide) w_201 d_T_makePipe_105 ?_
        refine so_iload d_T_makePipe_108 ?_
        refine so_aald d_T_makePipe_110 (tt := 4) rfl ?_
        refine so_iconst d_T_makePipe_111 rfl ?_
        refine so_putfIN cl_3 (k := 1) (by decide) rfl rfl w_190 d_T_makePipe_112 ?_
        refine so_aload_n d_T_makePipe_115 rfl ?_
        refine so_getf cl_6 (k := 3) (by decide) w_199 d_T_makePipe_116 ?_
        refine so_iload d_T_makePipe_119 ?_
        refine so_bipush d_T_makePipe_121 rfl ?_
        refine so_iload d_T_makePipe_123 ?_
        refine so_iadd d_T_makePipe_125 ?_
        refine so_iconst d_T_makePipe_126 rfl ?_
        refine so_callV cl_2 f_O_make w_334 w_335 w_333 (by decide) (by decide) d_T_makePipe_127 ?_
        exact so_jmp
      · refine so_bipush d_T_makePipe_101 rfl ?_
        exact so_iret d_T_makePipe_103 rfl
def k_T_makePipe_130 (G : oG) (Post : oP) : oK := o_aload 0 <| o_getf 6 3 <| o_iload 6 <| o_iconst 6 <| o_iload 7 <| o_iadd <| o_iconst 2 <| o_callV G 2 m_O_make 3 <| o_jmp G m_T_makePipe Post 145 [0, 1, 2, 3, 4, 5, 6]
theorem s_T_makePipe_130 {G : oG} {Post : oP} : oS G m_T_makePipe Post 130 (k_T_makePipe_130 G Post) := by
  unfold k_T_makePipe_130
  refine so_aload_n d_T_makePipe_130 rfl ?_
  refine so_getf cl_6 (k := 3) (by decide) w_199 d_T_makePipe_131 ?_
  refine so_iload d_T_makePipe_134 ?_
  refine so_bipush d_T_makePipe_136 rfl ?_
  refine so_iload d_T_makePipe_138 ?_
  refine so_iadd d_T_makePipe_140 ?_
  refine so_iconst d_T_makePipe_141 rfl ?_
  refine so_callV cl_2 f_O_make w_334 w_335 w_333 (by decide) (by decide) d_T_makePipe_142 ?_
  exact so_jmp
def k_T_makePipe_145 (G : oG) (Post : oP) : oK := o_aload 0 <| o_getf 6 3 <| o_iload 1 <| o_iload 3 <| o_iload 5 <| o_callV G 2 m_O_attach 3 <| o_jmp G m_T_makePipe Post 156 [0, 1, 2, 3, 4, 6]
theorem s_T_makePipe_145 {G : oG} {Post : oP} : oS G m_T_makePipe Post 145 (k_T_makePipe_145 G Post) := by
  unfold k_T_makePipe_145
  refine so_aload_n d_T_makePipe_145 rfl ?_
  refine so_getf cl_6 (k := 3) (by decide) w_199 d_T_makePipe_146 ?_
  refine so_iload_n d_T_makePipe_149 rfl ?_
  refine so_iload_n d_T_makePipe_150 rfl ?_
  refine so_iload d_T_makePipe_151 ?_
  refine so_callV cl_2 f_O_attach w_338 w_339 w_337 (by decide) (by decide) d_T_makePipe_153 ?_
  exact so_jmp
def k_T_makePipe_156 (G : oG) (Post : oP) : oK := o_aload 0 <| o_getf 6 3 <| o_iload 1 <| o_iload 4 <| o_iload 6 <| o_callV G 2 m_O_attach 3 <| o_jmp G m_T_makePipe Post 168 [0, 1, 2, 3, 4]
theorem s_T_makePipe_156 {G : oG} {Post : oP} : oS G m_T_makePipe Post 156 (k_T_makePipe_156 G Post) := by
  unfold k_T_makePipe_156
  refine so_aload_n d_T_makePipe_156 rfl ?_
  refine so_getf cl_6 (k := 3) (by decide) w_199 d_T_makePipe_157 ?_
  refine so_iload_n d_T_makePipe_160 rfl ?_
  refine so_iload d_T_makePipe_161 ?_
  refine so_iload d_T_makePipe_163 ?_
  refine so_callV cl_2 f_O_attach w_338 w_339 w_337 (by decide) (by decide) d_T_makePipe_165 ?_
  exact so_jmp
def k_T_makePipe_168 (G : oG) (Post : oP) : oK := o_aload 0 <| o_getf 6 0 <| o_iload 1 <| o_iload 2 <| o_iload 3 <| o_callV G 0 m_M_store 3 <| o_jmp G m_T_makePipe Post 178 [0, 1, 2, 4]
theorem s_T_makePipe_168 {G : oG} {Post : oP} : oS G m_T_makePipe Post 168 (k_T_makePipe_168 G Post) := by
  unfold k_T_makePipe_168
  refine so_aload_n d_T_makePipe_168 rfl ?_
  refine so_getf cl_6 (k := 0) (by decide) w_196 d_T_makePipe_169 ?_
  refine so_iload_n d_T_makePipe_172 rfl ?_
  refine so_iload_n d_T_makePipe_173 rfl ?_
  refine so_iload_n d_T_makePipe_174 rfl ?_
  refine so_callV cl_0 f_M_store w_425 w_426 w_424 (by decide) (by decide) d_T_makePipe_175 ?_
  exact so_jmp
def k_T_makePipe_178 (G : oG) (Post : oP) : oK := o_aload 0 <| o_getf 6 0 <| o_iload 1 <| o_iload 2 <| o_iconst 1 <| o_iadd <| o_iload 4 <| o_callV G 0 m_M_store 3 <| o_jmp G m_T_makePipe Post 191 []
theorem s_T_makePipe_178 {G : oG} {Post : oP} : oS G m_T_makePipe Post 178 (k_T_makePipe_178 G Post) := by
  unfold k_T_makePipe_178
  refine so_aload_n d_T_makePipe_178 rfl ?_
  refine so_getf cl_6 (k := 0) (by decide) w_196 d_T_makePipe_179 ?_
  refine so_iload_n d_T_makePipe_182 rfl ?_
  refine so_iload_n d_T_makePipe_183 rfl ?_
  refine so_iconst d_T_makePipe_184 rfl ?_
  refine so_iadd d_T_makePipe_185 ?_
  refine so_iload d_T_makePipe_186 ?_
  refine so_callV cl_0 f_M_store w_425 w_426 w_424 (by decide) (by decide) d_T_makePipe_188 ?_
  exact so_jmp
def k_T_makePipe_191 (G : oG) (Post : oP) : oK := o_iconst 0 <| o_iret Post
theorem s_T_makePipe_191 {G : oG} {Post : oP} : oS G m_T_makePipe Post 191 (k_T_makePipe_191 G Post) := by
  unfold k_T_makePipe_191
  refine so_iconst d_T_makePipe_191 rfl ?_
  exact so_iret d_T_makePipe_192 rfl
theorem d_T_list_0 : decode prog_1_method_39_code 0 = .ok (.iload_n 2, 1) := by decide +kernel
theorem d_T_list_1 : decode prog_1_method_39_code 1 = .ok (.aload_n 0, 1) := by decide +kernel
theorem d_T_list_2 : decode prog_1_method_39_code 2 = .ok (.getfield 23, 3) := by decide +kernel
theorem d_T_list_5 : decode prog_1_method_39_code 5 = .ok (.getfield 94, 3) := by decide +kernel
theorem d_T_list_8 : decode prog_1_method_39_code 8 = .ok (.invokestatic 66, 3) := by decide +kernel
theorem d_T_list_11 : decode prog_1_method_39_code 11 = .ok (.ifCond .ne 6, 3) := by decide +kernel
theorem d_T_list_14 : decode prog_1_method_39_code 14 = .ok (.bipush (-2), 2) := by decide +kernel
theorem d_T_list_16 : decode prog_1_method_39_code 16 = .ok (.ireturn, 1) := by decide +kernel
theorem d_T_list_17 : decode prog_1_method_39_code 17 = .ok (.aload_n 0, 1) := by decide +kernel
theorem d_T_list_18 : decode prog_1_method_39_code 18 = .ok (.getfield 23, 3) := by decide +kernel
theorem d_T_list_21 : decode prog_1_method_39_code 21 = .ok (.getfield 303, 3) := by decide +kernel
theorem d_T_list_24 : decode prog_1_method_39_code 24 = .ok (.iload_n 2, 1) := by decide +kernel
theorem d_T_list_25 : decode prog_1_method_39_code 25 = .ok (.laload, 1) := by decide +kernel
theorem d_T_list_26 : decode prog_1_method_39_code 26 = .ok (.lstore 4, 2) := by decide +kernel
theorem d_T_list_28 : decode prog_1_method_39_code 28 = .ok (.lload 4, 2) := by decide +kernel
theorem d_T_list_30 : decode prog_1_method_39_code 30 = .ok (.invokestatic 307, 3) := by decide +kernel
theorem d_T_list_33 : decode prog_1_method_39_code 33 = .ok (.istore 6, 2) := by decide +kernel
theorem d_T_list_35 : decode prog_1_method_39_code 35 = .ok (.aload_n 0, 1) := by decide +kernel
theorem d_T_list_36 : decode prog_1_method_39_code 36 = .ok (.getfield 12, 3) := by decide +kernel
theorem d_T_list_39 : decode prog_1_method_39_code 39 = .ok (.iload_n 1, 1) := by decide +kernel
theorem d_T_list_40 : decode prog_1_method_39_code 40 = .ok (.iload_n 3, 1) := by decide +kernel
theorem d_T_list_41 : decode prog_1_method_39_code 41 = .ok (.iload 6, 2) := by decide +kernel
theorem d_T_list_43 : decode prog_1_method_39_code 43 = .ok (.iconst 1, 1) := by decide +kernel
theorem d_T_list_44 : decode prog_1_method_39_code 44 = .ok (.iadd, 1) := by decide +kernel
theorem d_T_list_45 : decode prog_1_method_39_code 45 = .ok (.iconst 2, 1) := by decide +kernel
theorem d_T_list_46 : decode prog_1_method_39_code 46 = .ok (.invokevirtual 212, 3) := by decide +kernel
theorem d_T_list_49 : decode prog_1_method_39_code 49 = .ok (.ifCond .ne 6, 3) := by decide +kernel
theorem d_T_list_52 : decode prog_1_method_39_code 52 = .ok (.bipush (-14), 2) := by decide +kernel
theorem d_T_list_54 : decode prog_1_method_39_code 54 = .ok (.ireturn, 1) := by decide +kernel
theorem d_T_list_55 : decode prog_1_method_39_code 55 = .ok (.iconst 0, 1) := by decide +kernel
theorem d_T_list_56 : decode prog_1_method_39_code 56 = .ok (.istore 7, 2) := by decide +kernel
theorem d_T_list_58 : decode prog_1_method_39_code 58 = .ok (.iload 7, 2) := by decide +kernel
theorem d_T_list_60 : decode prog_1_method_39_code 60 = .ok (.iload 6, 2) := by decide +kernel
theorem d_T_list_62 : decode prog_1_method_39_code 62 = .ok (.if_icmp .ge 28, 3) := by decide +kernel
theorem d_T_list_65 : decode prog_1_method_39_code 65 = .ok (.aload_n 0, 1) := by decide +kernel
theorem d_T_list_66 : decode prog_1_method_39_code 66 = .ok (.getfield 12, 3) := by decide +kernel
theorem d_T_list_69 : decode prog_1_method_39_code 69 = .ok (.iload_n 1, 1) := by decide +kernel
theorem d_T_list_70 : decode prog_1_method_39_code 70 = .ok (.iload_n 3, 1) := by decide +kernel
theorem d_T_list_71 : decode prog_1_method_39_code 71 = .ok (.iload 7, 2) := by decide +kernel
theorem d_T_list_73 : decode prog_1_method_39_code 73 = .ok (.iadd, 1) := by decide +kernel
theorem d_T_list_74 : decode prog_1_method_39_code 74 = .ok (.lload 4, 2) := by decide +kernel
theorem d_T_list_76 : decode prog_1_method_39_code 76 = .ok (.iload 7, 2) := by decide +kernel
theorem d_T_list_78 : decode prog_1_method_39_code 78 = .ok (.invokestatic 310, 3) := by decide +kernel
theorem d_T_list_81 : decode prog_1_method_39_code 81 = .ok (.invokevirtual 291, 3) := by decide +kernel
theorem d_T_list_84 : decode prog_1_method_39_code 84 = .ok (.iinc 7 1, 3) := by decide +kernel
theorem d_T_list_87 : decode prog_1_method_39_code 87 = .ok (.goto (-29), 3) := by decide +kernel
theorem d_T_list_90 : decode prog_1_method_39_code 90 = .ok (.aload_n 0, 1) := by decide +kernel
theorem d_T_list_91 : decode prog_1_method_39_code 91 = .ok (.getfield 12, 3) := by decide +kernel
theorem d_T_list_94 : decode prog_1_method_39_code 94 = .ok (.iload_n 1, 1) := by decide +kernel
theorem d_T_list_95 : decode prog_1_method_39_code 95 = .ok (.iload_n 3, 1) := by decide +kernel
theorem d_T_list_96 : decode prog_1_method_39_code 96 = .ok (.iload 6, 2) := by decide +kernel
theorem d_T_list_98 : decode prog_1_method_39_code 98 = .ok (.iadd, 1) := by decide +kernel
theorem d_T_list_99 : decode prog_1_method_39_code 99 = .ok (.iconst 0, 1) := by decide +kernel
theorem d_T_list_100 : decode prog_1_method_39_code 100 = .ok (.invokevirtual 291, 3) := by decide +kernel
theorem d_T_list_103 : decode prog_1_method_39_code 103 = .ok (.iload 6, 2) := by decide +kernel
theorem d_T_list_105 : decode prog_1_method_39_code 105 = .ok (.ireturn, 1) := by decide +kernel
def k_T_list_0 (G : oG) (Post : oP) : oK := o_iload 2 <| o_aload 0 <| o_getf 6 2 <| o_getf 1 2 <| o_callS G m_T_isWithin 2 <| o_jmp G m_T_list Post 11 [0, 1, 2, 3]
theorem s_T_list_0 {G : oG} {Post : oP} : oS G m_T_list Post 0 (k_T_list_0 G Post) := by
  unfold k_T_list_0
  refine so_iload_n d_T_list_0 rfl ?_
  refine so_aload_n d_T_list_1 rfl ?_
  refine so_getf cl_6 (k := 2) (by decide) w_198 d_T_list_2 ?_
  refine so_getfN cl_1 (k := 2) (by decide) w_116 d_T_list_5 ?_
  refine so_callS f_T_isWithin w_232 w_231 (by decide) (by decide) d_T_list_8 ?_
  exact so_jmp
def k_T_list_11 (G : oG) (Post : oP) : oK := o_ifne (o_aload 0 <| o_getf 6 2 <| o_getf 1 0 <| o_iload 2 <| o_lald <| o_lstore 4 <| o_lload 4 <| o_callS G m_N_lengthOf 1 <| o_jmp G m_T_list Post 33 [0, 1, 3, 4]) (o_iconst (-2) <| o_iret Post)
theorem s_T_list_11 {G : oG} {Post : oP} : oS G m_T_list Post 11 (k_T_list_11 G Post) := by
  unfold k_T_list_11
  refine so_ifne d_T_list_11 (tgt := 17) (by decide) ?_ ?_
  · refine so_aload_n d_T_list_17 rfl ?_
    refine so_getf cl_6 (k := 2) (by decide) w_198 d_T_list_18 ?_
    refine so_getfN cl_1 (k := 0) (by decide) w_112 d_T_list_21 ?_
    refine so_iload_n d_T_list_24 rfl ?_
    refine so_lald d_T_list_25 ?_
    refine so_lstore d_T_list_26 (by decide) ?_
    refine so_lload d_T_list_28 ?_
    refine so_callS f_N_lengthOf w_495 w_494 (by decide) (by decide) d_T_list_30 ?_
    exact so_jmp
  · refine so_bipush d_T_list_14 rfl ?_
    exact so_iret d_T_list_16 rfl
def k_T_list_33 (G : oG) (Post : oP) : oK := o_istore 6 <| o_aload 0 <| o_getf 6 0 <| o_iload 1 <| o_iload 3 <| o_iload 6 <| o_iconst 1 <| o_iadd <| o_iconst 2 <| o_callV G 0 m_M_allows 4 <| o_jmp G m_T_list Post 49 [0, 1, 3, 4, 6]
theorem s_T_list_33 {G : oG} {Post : oP} : oS G m_T_list Post 33 (k_T_list_33 G Post) := by
  unfold k_T_list_33
  refine so_istore d_T_list_33 (by decide) ?_
  refine so_aload_n d_T_list_35 rfl ?_
  refine so_getf cl_6 (k := 0) (by decide) w_196 d_T_list_36 ?_
  refine so_iload_n d_T_list_39 rfl ?_
  refine so_iload_n d_T_list_40 rfl ?_
  refine so_iload d_T_list_41 ?_
  refine so_iconst d_T_list_43 rfl ?_
  refine so_iadd d_T_list_44 ?_
  refine so_iconst d_T_list_45 rfl ?_
  refine so_callV cl_0 f_M_allows w_287 w_288 w_365 (by decide) (by decide) d_T_list_46 ?_
  exact so_jmp
def k_T_list_49 (G : oG) (Post : oP) : oK := o_ifne (o_iconst 0 <| o_istore 7 <| o_jmp G m_T_list Post 58 [0, 1, 3, 4, 6, 7]) (o_iconst (-14) <| o_iret Post)
theorem s_T_list_49 {G : oG} {Post : oP} : oS G m_T_list Post 49 (k_T_list_49 G Post) := by
  unfold k_T_list_49
  refine so_ifne d_T_list_49 (tgt := 55) (by decide) ?_ ?_
  · refine so_iconst d_T_list_55 rfl ?_
    refine so_istore d_T_list_56 (by decide) ?_
    exact so_jmp
  · refine so_bipush d_T_list_52 rfl ?_
    exact so_iret d_T_list_54 rfl
def k_T_list_58 (G : oG) (Post : oP) : oK := o_iload 7 <| o_iload 6 <| o_icmpge (o_aload 0 <| o_getf 6 0 <| o_iload 1 <| o_iload 3 <| o_iload 6 <| o_iadd <| o_iconst 0 <| o_callV G 0 m_M_store 3 <| o_jmp G m_T_list Post 103 [6]) (o_aload 0 <| o_getf 6 0 <| o_iload 1 <| o_iload 3 <| o_iload 7 <| o_iadd <| o_lload 4 <| o_iload 7 <| o_callS G m_N_byteOf 2 <| o_jmp G m_T_list Post 81 [0, 1, 3, 4, 6, 7])
theorem s_T_list_58 {G : oG} {Post : oP} : oS G m_T_list Post 58 (k_T_list_58 G Post) := by
  unfold k_T_list_58
  refine so_iload d_T_list_58 ?_
  refine so_iload d_T_list_60 ?_
  refine so_icmpge d_T_list_62 (tgt := 90) (by decide) ?_ ?_
  · refine so_aload_n d_T_list_90 rfl ?_
    refine so_getf cl_6 (k := 0) (by decide) w_196 d_T_list_91 ?_
    refine so_iload_n d_T_list_94 rfl ?_
    refine so_iload_n d_T_list_95 rfl ?_
    refine so_iload d_T_list_96 ?_
    refine so_iadd d_T_list_98 ?_
    refine so_iconst d_T_list_99 rfl ?_
    refine so_callV cl_0 f_M_store w_425 w_426 w_424 (by decide) (by decide) d_T_list_100 ?_
    exact so_jmp
  · refine so_aload_n d_T_list_65 rfl ?_
    refine so_getf cl_6 (k := 0) (by decide) w_196 d_T_list_66 ?_
    refine so_iload_n d_T_list_69 rfl ?_
    refine so_iload_n d_T_list_70 rfl ?_
    refine so_iload d_T_list_71 ?_
    refine so_iadd d_T_list_73 ?_
    refine so_lload d_T_list_74 ?_
    refine so_iload d_T_list_76 ?_
    refine so_callS f_N_byteOf w_498 w_500 (by decide) (by decide) d_T_list_78 ?_
    exact so_jmp
def k_T_list_81 (G : oG) (Post : oP) : oK := o_callV G 0 m_M_store 3 <| o_jmp G m_T_list Post 84 [0, 1, 3, 4, 6, 7]
theorem s_T_list_81 {G : oG} {Post : oP} : oS G m_T_list Post 81 (k_T_list_81 G Post) := by
  unfold k_T_list_81
  refine so_callV cl_0 f_M_store w_425 w_426 w_424 (by decide) (by decide) d_T_list_81 ?_
  exact so_jmp
def k_T_list_84 (G : oG) (Post : oP) : oK := o_iinc 7 1 <| o_jmp G m_T_list Post 58 [0, 1, 3, 4, 6, 7]
theorem s_T_list_84 {G : oG} {Post : oP} : oS G m_T_list Post 84 (k_T_list_84 G Post) := by
  unfold k_T_list_84
  refine so_iinc d_T_list_84 rfl (by decide) ?_
  refine so_goto d_T_list_87 (tgt := 58) (by decide) ?_
  exact so_jmp
def k_T_list_103 (G : oG) (Post : oP) : oK := o_iload 6 <| o_iret Post
theorem s_T_list_103 {G : oG} {Post : oP} : oS G m_T_list Post 103 (k_T_list_103 G Post) := by
  unfold k_T_list_103
  refine so_iload d_T_list_103 ?_
  exact so_iret d_T_list_105 rfl
theorem d_T_copy_0 : decode prog_1_method_40_code 0 = .ok (.iload 4, 2) := by decide +kernel
theorem d_T_copy_2 : decode prog_1_method_40_code 2 = .ok (.ifCond .lt 10, 3) := by decide +kernel
theorem d_T_copy_5 : decode prog_1_method_40_code 5 = .ok (.iload 4, 2) := by decide +kernel
theorem d_T_copy_7 : decode prog_1_method_40_code 7 = .ok (.bipush 64, 2) := by decide +kernel
theorem d_T_copy_9 : decode prog_1_method_40_code 9 = .ok (.if_icmp .le 6, 3) := by decide +kernel
theorem d_T_copy_12 : decode prog_1_method_40_code 12 = .ok (.bipush (-22), 2) := by decide +kernel
theorem d_T_copy_14 : decode prog_1_method_40_code 14 = .ok (.ireturn, 1) := by decide +kernel
theorem d_T_copy_15 : decode prog_1_method_40_code 15 = .ok (.aload_n 0, 1) := by decide +kernel
theorem d_T_copy_16 : decode prog_1_method_40_code 16 = .ok (.getfield 12, 3) := by decide +kernel
theorem d_T_copy_19 : decode prog_1_method_40_code 19 = .ok (.iload_n 1, 1) := by decide +kernel
theorem d_T_copy_20 : decode prog_1_method_40_code 20 = .ok (.iload_n 3, 1) := by decide +kernel
theorem d_T_copy_21 : decode prog_1_method_40_code 21 = .ok (.iload 4, 2) := by decide +kernel
theorem d_T_copy_23 : decode prog_1_method_40_code 23 = .ok (.iconst 1, 1) := by decide +kernel
theorem d_T_copy_24 : decode prog_1_method_40_code 24 = .ok (.invokevirtual 212, 3) := by decide +kernel
theorem d_T_copy_27 : decode prog_1_method_40_code 27 = .ok (.ifCond .eq 18, 3) := by decide +kernel
theorem d_T_copy_30 : decode prog_1_method_40_code 30 = .ok (.aload_n 0, 1) := by decide +kernel
theorem d_T_copy_31 : decode prog_1_method_40_code 31 = .ok (.getfield 12, 3) := by decide +kernel
theorem d_T_copy_34 : decode prog_1_method_40_code 34 = .ok (.iload_n 1, 1) := by decide +kernel
theorem d_T_copy_35 : decode prog_1_method_40_code 35 = .ok (.iload_n 2, 1) := by decide +kernel
theorem d_T_copy_36 : decode prog_1_method_40_code 36 = .ok (.iload 4, 2) := by decide +kernel
theorem d_T_copy_38 : decode prog_1_method_40_code 38 = .ok (.iconst 2, 1) := by decide +kernel
theorem d_T_copy_39 : decode prog_1_method_40_code 39 = .ok (.invokevirtual 212, 3) := by decide +kernel
theorem d_T_copy_42 : decode prog_1_method_40_code 42 = .ok (.ifCond .ne 6, 3) := by decide +kernel
theorem d_T_copy_45 : decode prog_1_method_40_code 45 = .ok (.bipush (-14), 2) := by decide +kernel
theorem d_T_copy_47 : decode prog_1_method_40_code 47 = .ok (.ireturn, 1) := by decide +kernel
theorem d_T_copy_48 : decode prog_1_method_40_code 48 = .ok (.aload_n 0, 1) := by decide +kernel
theorem d_T_copy_49 : decode prog_1_method_40_code 49 = .ok (.getfield 49, 3) := by decide +kernel
theorem d_T_copy_52 : decode prog_1_method_40_code 52 = .ok (.iload_n 3, 1) := by decide +kernel
theorem d_T_copy_53 : decode prog_1_method_40_code 53 = .ok (.iload 4, 2) := by decide +kernel
theorem d_T_copy_55 : decode prog_1_method_40_code 55 = .ok (.invokevirtual 216, 3) := by decide +kernel
theorem d_T_copy_58 : decode prog_1_method_40_code 58 = .ok (.aload_n 0, 1) := by decide +kernel
theorem d_T_copy_59 : decode prog_1_method_40_code 59 = .ok (.iload_n 1, 1) := by decide +kernel
theorem d_T_copy_60 : decode prog_1_method_40_code 60 = .ok (.iload 4, 2) := by decide +kernel
theorem d_T_copy_62 : decode prog_1_method_40_code 62 = .ok (.invokevirtual 274, 3) := by decide +kernel
theorem d_T_copy_65 : decode prog_1_method_40_code 65 = .ok (.aload_n 0, 1) := by decide +kernel
theorem d_T_copy_66 : decode prog_1_method_40_code 66 = .ok (.getfield 49, 3) := by decide +kernel
theorem d_T_copy_69 : decode prog_1_method_40_code 69 = .ok (.iload_n 2, 1) := by decide +kernel
theorem d_T_copy_70 : decode prog_1_method_40_code 70 = .ok (.iload 4, 2) := by decide +kernel
theorem d_T_copy_72 : decode prog_1_method_40_code 72 = .ok (.invokevirtual 216, 3) := by decide +kernel
theorem d_T_copy_75 : decode prog_1_method_40_code 75 = .ok (.aload_n 0, 1) := by decide +kernel
theorem d_T_copy_76 : decode prog_1_method_40_code 76 = .ok (.iload_n 1, 1) := by decide +kernel
theorem d_T_copy_77 : decode prog_1_method_40_code 77 = .ok (.iload 4, 2) := by decide +kernel
theorem d_T_copy_79 : decode prog_1_method_40_code 79 = .ok (.invokevirtual 248, 3) := by decide +kernel
theorem d_T_copy_82 : decode prog_1_method_40_code 82 = .ok (.iload 4, 2) := by decide +kernel
theorem d_T_copy_84 : decode prog_1_method_40_code 84 = .ok (.ireturn, 1) := by decide +kernel
def k_T_copy_0 (G : oG) (Post : oP) : oK := o_iload 4 <| o_iflt (o_iconst (-22) <| o_iret Post) (o_iload 4 <| o_iconst 64 <| o_icmple (o_aload 0 <| o_getf 6 0 <| o_iload 1 <| o_iload 3 <| o_iload 4 <| o_iconst 1 <| o_callV G 0 m_M_allows 4 <| o_jmp G m_T_copy Post 27 [0, 1, 2, 3, 4]) (o_iconst (-22) <| o_iret Post))
theorem s_T_copy_0 {G : oG} {Post : oP} : oS G m_T_copy Post 0 (k_T_copy_0 G Post) := by
  unfold k_T_copy_0
  refine so_iload d_T_copy_0 ?_
  refine so_iflt d_T_copy_2 (tgt := 12) (by decide) ?_ ?_
  · refine so_bipush d_T_copy_12 rfl ?_
    exact so_iret d_T_copy_14 rfl
  · refine so_iload d_T_copy_5 ?_
    refine so_bipush d_T_copy_7 rfl ?_
    refine so_icmple d_T_copy_9 (tgt := 15) (by decide) ?_ ?_
    · refine so_aload_n d_T_copy_15 rfl ?_
      refine so_getf cl_6 (k := 0) (by decide) w_196 d_T_copy_16 ?_
      refine so_iload_n d_T_copy_19 rfl ?_
      refine so_iload_n d_T_copy_20 rfl ?_
      refine so_iload d_T_copy_21 ?_
      refine so_iconst d_T_copy_23 rfl ?_
      refine so_callV cl_0 f_M_allows w_287 w_288 w_365 (by decide) (by decide) d_T_copy_24 ?_
      exact so_jmp
    · refine so_bipush d_T_copy_12 rfl ?_
      exact so_iret d_T_copy_14 rfl
def k_T_copy_27 (G : oG) (Post : oP) : oK := o_ifeq (o_iconst (-14) <| o_iret Post) (o_aload 0 <| o_getf 6 0 <| o_iload 1 <| o_iload 2 <| o_iload 4 <| o_iconst 2 <| o_callV G 0 m_M_allows 4 <| o_jmp G m_T_copy Post 42 [0, 1, 2, 3, 4])
theorem s_T_copy_27 {G : oG} {Post : oP} : oS G m_T_copy Post 27 (k_T_copy_27 G Post) := by
  unfold k_T_copy_27
  refine so_ifeq d_T_copy_27 (tgt := 45) (by decide) ?_ ?_
  · refine so_bipush d_T_copy_45 rfl ?_
    exact so_iret d_T_copy_47 rfl
  · refine so_aload_n d_T_copy_30 rfl ?_
    refine so_getf cl_6 (k := 0) (by decide) w_196 d_T_copy_31 ?_
    refine so_iload_n d_T_copy_34 rfl ?_
    refine so_iload_n d_T_copy_35 rfl ?_
    refine so_iload d_T_copy_36 ?_
    refine so_iconst d_T_copy_38 rfl ?_
    refine so_callV cl_0 f_M_allows w_287 w_288 w_365 (by decide) (by decide) d_T_copy_39 ?_
    exact so_jmp
def k_T_copy_42 (G : oG) (Post : oP) : oK := o_ifne (o_aload 0 <| o_getf 6 6 <| o_iload 3 <| o_iload 4 <| o_callV G 4 m_R_setOnly 2 <| o_jmp G m_T_copy Post 58 [0, 1, 2, 4]) (o_iconst (-14) <| o_iret Post)
theorem s_T_copy_42 {G : oG} {Post : oP} : oS G m_T_copy Post 42 (k_T_copy_42 G Post) := by
  unfold k_T_copy_42
  refine so_ifne d_T_copy_42 (tgt := 48) (by decide) ?_ ?_
  · refine so_aload_n d_T_copy_48 rfl ?_
    refine so_getf cl_6 (k := 6) (by decide) w_202 d_T_copy_49 ?_
    refine so_iload_n d_T_copy_52 rfl ?_
    refine so_iload d_T_copy_53 ?_
    refine so_callV cl_4 f_R_setOnly w_367 w_368 w_366 (by decide) (by decide) d_T_copy_55 ?_
    exact so_jmp
  · refine so_bipush d_T_copy_45 rfl ?_
    exact so_iret d_T_copy_47 rfl
def k_T_copy_58 (G : oG) (Post : oP) : oK := o_aload 0 <| o_iload 1 <| o_iload 4 <| o_callV G 6 m_T_gather 2 <| o_jmp G m_T_copy Post 65 [0, 1, 2, 4]
theorem s_T_copy_58 {G : oG} {Post : oP} : oS G m_T_copy Post 58 (k_T_copy_58 G Post) := by
  unfold k_T_copy_58
  refine so_aload_n d_T_copy_58 rfl ?_
  refine so_iload_n d_T_copy_59 rfl ?_
  refine so_iload d_T_copy_60 ?_
  refine so_callV cl_6 f_T_gather w_434 w_11 w_432 (by decide) (by decide) d_T_copy_62 ?_
  exact so_jmp
def k_T_copy_65 (G : oG) (Post : oP) : oK := o_aload 0 <| o_getf 6 6 <| o_iload 2 <| o_iload 4 <| o_callV G 4 m_R_setOnly 2 <| o_jmp G m_T_copy Post 75 [0, 1, 4]
theorem s_T_copy_65 {G : oG} {Post : oP} : oS G m_T_copy Post 65 (k_T_copy_65 G Post) := by
  unfold k_T_copy_65
  refine so_aload_n d_T_copy_65 rfl ?_
  refine so_getf cl_6 (k := 6) (by decide) w_202 d_T_copy_66 ?_
  refine so_iload_n d_T_copy_69 rfl ?_
  refine so_iload d_T_copy_70 ?_
  refine so_callV cl_4 f_R_setOnly w_367 w_368 w_366 (by decide) (by decide) d_T_copy_72 ?_
  exact so_jmp
def k_T_copy_75 (G : oG) (Post : oP) : oK := o_aload 0 <| o_iload 1 <| o_iload 4 <| o_callV G 6 m_T_scatter 2 <| o_jmp G m_T_copy Post 82 [4]
theorem s_T_copy_75 {G : oG} {Post : oP} : oS G m_T_copy Post 75 (k_T_copy_75 G Post) := by
  unfold k_T_copy_75
  refine so_aload_n d_T_copy_75 rfl ?_
  refine so_iload_n d_T_copy_76 rfl ?_
  refine so_iload d_T_copy_77 ?_
  refine so_callV cl_6 f_T_scatter w_418 w_9 w_416 (by decide) (by decide) d_T_copy_79 ?_
  exact so_jmp
def k_T_copy_82 (G : oG) (Post : oP) : oK := o_iload 4 <| o_iret Post
theorem s_T_copy_82 {G : oG} {Post : oP} : oS G m_T_copy Post 82 (k_T_copy_82 G Post) := by
  unfold k_T_copy_82
  refine so_iload d_T_copy_82 ?_
  exact so_iret d_T_copy_84 rfl
theorem d_T_protect_0 : decode prog_1_method_41_code 0 = .ok (.iload_n 2, 1) := by decide +kernel
theorem d_T_protect_1 : decode prog_1_method_41_code 1 = .ok (.bipush 16, 2) := by decide +kernel
theorem d_T_protect_3 : decode prog_1_method_41_code 3 = .ok (.invokestatic 66, 3) := by decide +kernel
theorem d_T_protect_6 : decode prog_1_method_41_code 6 = .ok (.ifCond .eq 12, 3) := by decide +kernel
theorem d_T_protect_9 : decode prog_1_method_41_code 9 = .ok (.iload_n 3, 1) := by decide +kernel
theorem d_T_protect_10 : decode prog_1_method_41_code 10 = .ok (.ifCond .lt 8, 3) := by decide +kernel
theorem d_T_protect_13 : decode prog_1_method_41_code 13 = .ok (.iload_n 3, 1) := by decide +kernel
theorem d_T_protect_14 : decode prog_1_method_41_code 14 = .ok (.iconst 3, 1) := by decide +kernel
theorem d_T_protect_15 : decode prog_1_method_41_code 15 = .ok (.if_icmp .le 6, 3) := by decide +kernel
theorem d_T_protect_18 : decode prog_1_method_41_code 18 = .ok (.bipush (-22), 2) := by decide +kernel
theorem d_T_protect_20 : decode prog_1_method_41_code 20 = .ok (.ireturn, 1) := by decide +kernel
theorem d_T_protect_21 : decode prog_1_method_41_code 21 = .ok (.aload_n 0, 1) := by decide +kernel
theorem d_T_protect_22 : decode prog_1_method_41_code 22 = .ok (.getfield 12, 3) := by decide +kernel
theorem d_T_protect_25 : decode prog_1_method_41_code 25 = .ok (.iload_n 1, 1) := by decide +kernel
theorem d_T_protect_26 : decode prog_1_method_41_code 26 = .ok (.iload_n 2, 1) := by decide +kernel
theorem d_T_protect_27 : decode prog_1_method_41_code 27 = .ok (.invokevirtual 78, 3) := by decide +kernel
theorem d_T_protect_30 : decode prog_1_method_41_code 30 = .ok (.istore 4, 2) := by decide +kernel
theorem d_T_protect_32 : decode prog_1_method_41_code 32 = .ok (.iload 4, 2) := by decide +kernel
theorem d_T_protect_34 : decode prog_1_method_41_code 34 = .ok (.iconst (-1), 1) := by decide +kernel
theorem d_T_protect_35 : decode prog_1_method_41_code 35 = .ok (.if_icmp .eq 10, 3) := by decide +kernel
theorem d_T_protect_38 : decode prog_1_method_41_code 38 = .ok (.iload 4, 2) := by decide +kernel
theorem d_T_protect_40 : decode prog_1_method_41_code 40 = .ok (.iconst 4, 1) := by decide +kernel
theorem d_T_protect_41 : decode prog_1_method_41_code 41 = .ok (.iand, 1) := by decide +kernel
theorem d_T_protect_42 : decode prog_1_method_41_code 42 = .ok (.ifCond .ne 6, 3) := by decide +kernel
theorem d_T_protect_45 : decode prog_1_method_41_code 45 = .ok (.bipush (-14), 2) := by decide +kernel
theorem d_T_protect_47 : decode prog_1_method_41_code 47 = .ok (.ireturn, 1) := by decide +kernel
theorem d_T_protect_48 : decode prog_1_method_41_code 48 = .ok (.iload 4, 2) := by decide +kernel
theorem d_T_protect_50 : decode prog_1_method_41_code 50 = .ok (.iconst 3, 1) := by decide +kernel
theorem d_T_protect_51 : decode prog_1_method_41_code 51 = .ok (.iand, 1) := by decide +kernel
theorem d_T_protect_52 : decode prog_1_method_41_code 52 = .ok (.istore 5, 2) := by decide +kernel
theorem d_T_protect_54 : decode prog_1_method_41_code 54 = .ok (.aload_n 0, 1) := by decide +kernel
theorem d_T_protect_55 : decode prog_1_method_41_code 55 = .ok (.getfield 12, 3) := by decide +kernel
theorem d_T_protect_58 : decode prog_1_method_41_code 58 = .ok (.iload_n 1, 1) := by decide +kernel
theorem d_T_protect_59 : decode prog_1_method_41_code 59 = .ok (.iload_n 2, 1) := by decide +kernel
theorem d_T_protect_60 : decode prog_1_method_41_code 60 = .ok (.iload 4, 2) := by decide +kernel
theorem d_T_protect_62 : decode prog_1_method_41_code 62 = .ok (.iload 5, 2) := by decide +kernel
theorem d_T_protect_64 : decode prog_1_method_41_code 64 = .ok (.isub, 1) := by decide +kernel
theorem d_T_protect_65 : decode prog_1_method_41_code 65 = .ok (.iload_n 3, 1) := by decide +kernel
theorem d_T_protect_66 : decode prog_1_method_41_code 66 = .ok (.iadd, 1) := by decide +kernel
theorem d_T_protect_67 : decode prog_1_method_41_code 67 = .ok (.invokevirtual 70, 3) := by decide +kernel
theorem d_T_protect_70 : decode prog_1_method_41_code 70 = .ok (.iload 5, 2) := by decide +kernel
theorem d_T_protect_72 : decode prog_1_method_41_code 72 = .ok (.ireturn, 1) := by decide +kernel
def k_T_protect_0 (G : oG) (Post : oP) : oK := o_iload 2 <| o_iconst 16 <| o_callS G m_T_isWithin 2 <| o_jmp G m_T_protect Post 6 [0, 1, 2, 3]
theorem s_T_protect_0 {G : oG} {Post : oP} : oS G m_T_protect Post 0 (k_T_protect_0 G Post) := by
  unfold k_T_protect_0
  refine so_iload_n d_T_protect_0 rfl ?_
  refine so_bipush d_T_protect_1 rfl ?_
  refine so_callS f_T_isWithin w_232 w_231 (by decide) (by decide) d_T_protect_3 ?_
  exact so_jmp
def k_T_protect_6 (G : oG) (Post : oP) : oK := o_ifeq (o_iconst (-22) <| o_iret Post) (o_iload 3 <| o_iflt (o_iconst (-22) <| o_iret Post) (o_iload 3 <| o_iconst 3 <| o_icmple (o_aload 0 <| o_getf 6 0 <| o_iload 1 <| o_iload 2 <| o_callV G 0 m_M_entry 2 <| o_jmp G m_T_protect Post 30 [0, 1, 2, 3]) (o_iconst (-22) <| o_iret Post)))
theorem s_T_protect_6 {G : oG} {Post : oP} : oS G m_T_protect Post 6 (k_T_protect_6 G Post) := by
  unfold k_T_protect_6
  refine so_ifeq d_T_protect_6 (tgt := 18) (by decide) ?_ ?_
  · refine so_bipush d_T_protect_18 rfl ?_
    exact so_iret d_T_protect_20 rfl
  · refine so_iload_n d_T_protect_9 rfl ?_
    refine so_iflt d_T_protect_10 (tgt := 18) (by decide) ?_ ?_
    · refine so_bipush d_T_protect_18 rfl ?_
      exact so_iret d_T_protect_20 rfl
    · refine so_iload_n d_T_protect_13 rfl ?_
      refine so_iconst d_T_protect_14 rfl ?_
      refine so_icmple d_T_protect_15 (tgt := 21) (by decide) ?_ ?_
      · refine so_aload_n d_T_protect_21 rfl ?_
        refine so_getf cl_6 (k := 0) (by decide) w_196 d_T_protect_22 ?_
        refine so_iload_n d_T_protect_25 rfl ?_
        refine so_iload_n d_T_protect_26 rfl ?_
        refine so_callV cl_0 f_M_entry w_247 w_248 w_246 (by decide) (by decide) d_T_protect_27 ?_
        exact so_jmp
      · refine so_bipush d_T_protect_18 rfl ?_
        exact so_iret d_T_protect_20 rfl
def k_T_protect_30 (G : oG) (Post : oP) : oK := o_istore 4 <| o_iload 4 <| o_iconst (-1) <| o_icmpeq (o_iconst (-14) <| o_iret Post) (o_iload 4 <| o_iconst 4 <| o_iand <| o_ifne (o_iload 4 <| o_iconst 3 <| o_iand <| o_istore 5 <| o_aload 0 <| o_getf 6 0 <| o_iload 1 <| o_iload 2 <| o_iload 4 <| o_iload 5 <| o_isub <| o_iload 3 <| o_iadd <| o_callV G 0 m_M_setEntry 3 <| o_jmp G m_T_protect Post 70 [5]) (o_iconst (-14) <| o_iret Post))
theorem s_T_protect_30 {G : oG} {Post : oP} : oS G m_T_protect Post 30 (k_T_protect_30 G Post) := by
  unfold k_T_protect_30
  refine so_istore d_T_protect_30 (by decide) ?_
  refine so_iload d_T_protect_32 ?_
  refine so_iconst d_T_protect_34 rfl ?_
  refine so_icmpeq d_T_protect_35 (tgt := 45) (by decide) ?_ ?_
  · refine so_bipush d_T_protect_45 rfl ?_
    exact so_iret d_T_protect_47 rfl
  · refine so_iload d_T_protect_38 ?_
    refine so_iconst d_T_protect_40 rfl ?_
    refine so_iand d_T_protect_41 ?_
    refine so_ifne d_T_protect_42 (tgt := 48) (by decide) ?_ ?_
    · refine so_iload d_T_protect_48 ?_
      refine so_iconst d_T_protect_50 rfl ?_
      refine so_iand d_T_protect_51 ?_
      refine so_istore d_T_protect_52 (by decide) ?_
      refine so_aload_n d_T_protect_54 rfl ?_
      refine so_getf cl_6 (k := 0) (by decide) w_196 d_T_protect_55 ?_
      refine so_iload_n d_T_protect_58 rfl ?_
      refine so_iload_n d_T_protect_59 rfl ?_
      refine so_iload d_T_protect_60 ?_
      refine so_iload d_T_protect_62 ?_
      refine so_isub d_T_protect_64 ?_
      refine so_iload_n d_T_protect_65 rfl ?_
      refine so_iadd d_T_protect_66 ?_
      refine so_callV cl_0 f_M_setEntry w_235 w_236 w_234 (by decide) (by decide) d_T_protect_67 ?_
      exact so_jmp
    · refine so_bipush d_T_protect_45 rfl ?_
      exact so_iret d_T_protect_47 rfl
def k_T_protect_70 (G : oG) (Post : oP) : oK := o_iload 5 <| o_iret Post
theorem s_T_protect_70 {G : oG} {Post : oP} : oS G m_T_protect Post 70 (k_T_protect_70 G Post) := by
  unfold k_T_protect_70
  refine so_iload d_T_protect_70 ?_
  exact so_iret d_T_protect_72 rfl
theorem d_T_takeRanges_0 : decode prog_1_method_25_code 0 = .ok (.aload_n 0, 1) := by decide +kernel
theorem d_T_takeRanges_1 : decode prog_1_method_25_code 1 = .ok (.getfield 12, 3) := by decide +kernel
theorem d_T_takeRanges_4 : decode prog_1_method_25_code 4 = .ok (.iload_n 1, 1) := by decide +kernel
theorem d_T_takeRanges_5 : decode prog_1_method_25_code 5 = .ok (.iload_n 2, 1) := by decide +kernel
theorem d_T_takeRanges_6 : decode prog_1_method_25_code 6 = .ok (.iconst 2, 1) := by decide +kernel
theorem d_T_takeRanges_7 : decode prog_1_method_25_code 7 = .ok (.iload_n 3, 1) := by decide +kernel
theorem d_T_takeRanges_8 : decode prog_1_method_25_code 8 = .ok (.imul, 1) := by decide +kernel
theorem d_T_takeRanges_9 : decode prog_1_method_25_code 9 = .ok (.iconst 1, 1) := by decide +kernel
theorem d_T_takeRanges_10 : decode prog_1_method_25_code 10 = .ok (.invokevirtual 212, 3) := by decide +kernel
theorem d_T_takeRanges_13 : decode prog_1_method_25_code 13 = .ok (.ifCond .ne 5, 3) := by decide +kernel
theorem d_T_takeRanges_16 : decode prog_1_method_25_code 16 = .ok (.iconst 0, 1) := by decide +kernel
theorem d_T_takeRanges_17 : decode prog_1_method_25_code 17 = .ok (.ireturn, 1) := by decide +kernel
theorem d_T_takeRanges_18 : decode prog_1_method_25_code 18 = .ok (.aload_n 0, 1) := by decide +kernel
theorem d_T_takeRanges_19 : decode prog_1_method_25_code 19 = .ok (.getfield 49, 3) := by decide +kernel
theorem d_T_takeRanges_22 : decode prog_1_method_25_code 22 = .ok (.invokevirtual 228, 3) := by decide +kernel
theorem d_T_takeRanges_25 : decode prog_1_method_25_code 25 = .ok (.iconst 0, 1) := by decide +kernel
theorem d_T_takeRanges_26 : decode prog_1_method_25_code 26 = .ok (.istore 5, 2) := by decide +kernel
theorem d_T_takeRanges_28 : decode prog_1_method_25_code 28 = .ok (.iload 5, 2) := by decide +kernel
theorem d_T_takeRanges_30 : decode prog_1_method_25_code 30 = .ok (.iload_n 3, 1) := by decide +kernel
theorem d_T_takeRanges_31 : decode prog_1_method_25_code 31 = .ok (.if_icmp .ge 73, 3) := by decide +kernel
theorem d_T_takeRanges_34 : decode prog_1_method_25_code 34 = .ok (.aload_n 0, 1) := by decide +kernel
theorem d_T_takeRanges_35 : decode prog_1_method_25_code 35 = .ok (.getfield 12, 3) := by decide +kernel
theorem d_T_takeRanges_38 : decode prog_1_method_25_code 38 = .ok (.iload_n 1, 1) := by decide +kernel
theorem d_T_takeRanges_39 : decode prog_1_method_25_code 39 = .ok (.iload_n 2, 1) := by decide +kernel
theorem d_T_takeRanges_40 : decode prog_1_method_25_code 40 = .ok (.iconst 2, 1) := by decide +kernel
theorem d_T_takeRanges_41 : decode prog_1_method_25_code 41 = .ok (.iload 5, 2) := by decide +kernel
theorem d_T_takeRanges_43 : decode prog_1_method_25_code 43 = .ok (.imul, 1) := by decide +kernel
theorem d_T_takeRanges_44 : decode prog_1_method_25_code 44 = .ok (.iadd, 1) := by decide +kernel
theorem d_T_takeRanges_45 : decode prog_1_method_25_code 45 = .ok (.invokevirtual 231, 3) := by decide +kernel
theorem d_T_takeRanges_48 : decode prog_1_method_25_code 48 = .ok (.istore 6, 2) := by decide +kernel
theorem d_T_takeRanges_50 : decode prog_1_method_25_code 50 = .ok (.aload_n 0, 1) := by decide +kernel
theorem d_T_takeRanges_51 : decode prog_1_method_25_code 51 = .ok (.getfield 12, 3) := by decide +kernel
theorem d_T_takeRanges_54 : decode prog_1_method_25_code 54 = .ok (.iload_n 1, 1) := by decide +kernel
theorem d_T_takeRanges_55 : decode prog_1_method_25_code 55 = .ok (.iload_n 2, 1) := by decide +kernel
theorem d_T_takeRanges_56 : decode prog_1_method_25_code 56 = .ok (.iconst 2, 1) := by decide +kernel
theorem d_T_takeRanges_57 : decode prog_1_method_25_code 57 = .ok (.iload 5, 2) := by decide +kernel
theorem d_T_takeRanges_59 : decode prog_1_method_25_code 59 = .ok (.imul, 1) := by decide +kernel
theorem d_T_takeRanges_60 : decode prog_1_method_25_code 60 = .ok (.iadd, 1) := by decide +kernel
theorem d_T_takeRanges_61 : decode prog_1_method_25_code 61 = .ok (.iconst 1, 1) := by decide +kernel
theorem d_T_takeRanges_62 : decode prog_1_method_25_code 62 = .ok (.iadd, 1) := by decide +kernel
theorem d_T_takeRanges_63 : decode prog_1_method_25_code 63 = .ok (.invokevirtual 231, 3) := by decide +kernel
theorem d_T_takeRanges_66 : decode prog_1_method_25_code 66 = .ok (.istore 7, 2) := by decide +kernel
theorem d_T_takeRanges_68 : decode prog_1_method_25_code 68 = .ok (.aload_n 0, 1) := by decide +kernel
theorem d_T_takeRanges_69 : decode prog_1_method_25_code 69 = .ok (.getfield 12, 3) := by decide +kernel
theorem d_T_takeRanges_72 : decode prog_1_method_25_code 72 = .ok (.iload_n 1, 1) := by decide +kernel
theorem d_T_takeRanges_73 : decode prog_1_method_25_code 73 = .ok (.iload 6, 2) := by decide +kernel
theorem d_T_takeRanges_75 : decode prog_1_method_25_code 75 = .ok (.iload 7, 2) := by decide +kernel
theorem d_T_takeRanges_77 : decode prog_1_method_25_code 77 = .ok (.iload 4, 2) := by decide +kernel
theorem d_T_takeRanges_79 : decode prog_1_method_25_code 79 = .ok (.invokevirtual 212, 3) := by decide +kernel
theorem d_T_takeRanges_82 : decode prog_1_method_25_code 82 = .ok (.ifCond .ne 5, 3) := by decide +kernel
theorem d_T_takeRanges_85 : decode prog_1_method_25_code 85 = .ok (.iconst 0, 1) := by decide +kernel
theorem d_T_takeRanges_86 : decode prog_1_method_25_code 86 = .ok (.ireturn, 1) := by decide +kernel
theorem d_T_takeRanges_87 : decode prog_1_method_25_code 87 = .ok (.aload_n 0, 1) := by decide +kernel
theorem d_T_takeRanges_88 : decode prog_1_method_25_code 88 = .ok (.getfield 49, 3) := by decide +kernel
theorem d_T_takeRanges_91 : decode prog_1_method_25_code 91 = .ok (.iload 6, 2) := by decide +kernel
theorem d_T_takeRanges_93 : decode prog_1_method_25_code 93 = .ok (.iload 7, 2) := by decide +kernel
theorem d_T_takeRanges_95 : decode prog_1_method_25_code 95 = .ok (.invokevirtual 234, 3) := by decide +kernel
theorem d_T_takeRanges_98 : decode prog_1_method_25_code 98 = .ok (.iinc 5 1, 3) := by decide +kernel
theorem d_T_takeRanges_101 : decode prog_1_method_25_code 101 = .ok (.goto (-73), 3) := by decide +kernel
theorem d_T_takeRanges_104 : decode prog_1_method_25_code 104 = .ok (.iconst 1, 1) := by decide +kernel
theorem d_T_takeRanges_105 : decode prog_1_method_25_code 105 = .ok (.ireturn, 1) := by decide +kernel
def k_T_takeRanges_0 (G : oG) (Post : oP) : oK := o_aload 0 <| o_getf 6 0 <| o_iload 1 <| o_iload 2 <| o_iconst 2 <| o_iload 3 <| o_imul <| o_iconst 1 <| o_callV G 0 m_M_allows 4 <| o_jmp G m_T_takeRanges Post 13 [0, 1, 2, 3, 4]
theorem s_T_takeRanges_0 {G : oG} {Post : oP} : oS G m_T_takeRanges Post 0 (k_T_takeRanges_0 G Post) := by
  unfold k_T_takeRanges_0
  refine so_aload_n d_T_takeRanges_0 rfl ?_
  refine so_getf cl_6 (k := 0) (by decide) w_196 d_T_takeRanges_1 ?_
  refine so_iload_n d_T_takeRanges_4 rfl ?_
  refine so_iload_n d_T_takeRanges_5 rfl ?_
  refine so_iconst d_T_takeRanges_6 rfl ?_
  refine so_iload_n d_T_takeRanges_7 rfl ?_
  refine so_imul d_T_takeRanges_8 ?_
  refine so_iconst d_T_takeRanges_9 rfl ?_
  refine so_callV cl_0 f_M_allows w_287 w_288 w_365 (by decide) (by decide) d_T_takeRanges_10 ?_
  exact so_jmp
def k_T_takeRanges_13 (G : oG) (Post : oP) : oK := o_ifne (o_aload 0 <| o_getf 6 6 <| o_callV G 4 m_R_clear 0 <| o_jmp G m_T_takeRanges Post 25 [0, 1, 2, 3, 4]) (o_iconst 0 <| o_zret Post)
theorem s_T_takeRanges_13 {G : oG} {Post : oP} : oS G m_T_takeRanges Post 13 (k_T_takeRanges_13 G Post) := by
  unfold k_T_takeRanges_13
  refine so_ifne d_T_takeRanges_13 (tgt := 18) (by decide) ?_ ?_
  · refine so_aload_n d_T_takeRanges_18 rfl ?_
    refine so_getf cl_6 (k := 6) (by decide) w_202 d_T_takeRanges_19 ?_
    refine so_callV cl_4 f_R_clear w_371 w_372 w_517 (by decide) (by decide) d_T_takeRanges_22 ?_
    exact so_jmp
  · refine so_iconst d_T_takeRanges_16 rfl ?_
    exact so_zret d_T_takeRanges_17 rfl
def k_T_takeRanges_25 (G : oG) (Post : oP) : oK := o_iconst 0 <| o_istore 5 <| o_jmp G m_T_takeRanges Post 28 [0, 1, 2, 3, 4, 5]
theorem s_T_takeRanges_25 {G : oG} {Post : oP} : oS G m_T_takeRanges Post 25 (k_T_takeRanges_25 G Post) := by
  unfold k_T_takeRanges_25
  refine so_iconst d_T_takeRanges_25 rfl ?_
  refine so_istore d_T_takeRanges_26 (by decide) ?_
  exact so_jmp
def k_T_takeRanges_28 (G : oG) (Post : oP) : oK := o_iload 5 <| o_iload 3 <| o_icmpge (o_iconst 1 <| o_zret Post) (o_aload 0 <| o_getf 6 0 <| o_iload 1 <| o_iload 2 <| o_iconst 2 <| o_iload 5 <| o_imul <| o_iadd <| o_callV G 0 m_M_load 2 <| o_jmp G m_T_takeRanges Post 48 [0, 1, 2, 3, 4, 5])
theorem s_T_takeRanges_28 {G : oG} {Post : oP} : oS G m_T_takeRanges Post 28 (k_T_takeRanges_28 G Post) := by
  unfold k_T_takeRanges_28
  refine so_iload d_T_takeRanges_28 ?_
  refine so_iload_n d_T_takeRanges_30 rfl ?_
  refine so_icmpge d_T_takeRanges_31 (tgt := 104) (by decide) ?_ ?_
  · refine so_iconst d_T_takeRanges_104 rfl ?_
    exact so_zret d_T_takeRanges_105 rfl
  · refine so_aload_n d_T_takeRanges_34 rfl ?_
    refine so_getf cl_6 (k := 0) (by decide) w_196 d_T_takeRanges_35 ?_
    refine so_iload_n d_T_takeRanges_38 rfl ?_
    refine so_iload_n d_T_takeRanges_39 rfl ?_
    refine so_iconst d_T_takeRanges_40 rfl ?_
    refine so_iload d_T_takeRanges_41 ?_
    refine so_imul d_T_takeRanges_43 ?_
    refine so_iadd d_T_takeRanges_44 ?_
    refine so_callV cl_0 f_M_load w_293 w_294 w_436 (by decide) (by decide) d_T_takeRanges_45 ?_
    exact so_jmp
def k_T_takeRanges_48 (G : oG) (Post : oP) : oK := o_istore 6 <| o_aload 0 <| o_getf 6 0 <| o_iload 1 <| o_iload 2 <| o_iconst 2 <| o_iload 5 <| o_imul <| o_iadd <| o_iconst 1 <| o_iadd <| o_callV G 0 m_M_load 2 <| o_jmp G m_T_takeRanges Post 66 [0, 1, 2, 3, 4, 5, 6]
theorem s_T_takeRanges_48 {G : oG} {Post : oP} : oS G m_T_takeRanges Post 48 (k_T_takeRanges_48 G Post) := by
  unfold k_T_takeRanges_48
  refine so_istore d_T_takeRanges_48 (by decide) ?_
  refine so_aload_n d_T_takeRanges_50 rfl ?_
  refine so_getf cl_6 (k := 0) (by decide) w_196 d_T_takeRanges_51 ?_
  refine so_iload_n d_T_takeRanges_54 rfl ?_
  refine so_iload_n d_T_takeRanges_55 rfl ?_
  refine so_iconst d_T_takeRanges_56 rfl ?_
  refine so_iload d_T_takeRanges_57 ?_
  refine so_imul d_T_takeRanges_59 ?_
  refine so_iadd d_T_takeRanges_60 ?_
  refine so_iconst d_T_takeRanges_61 rfl ?_
  refine so_iadd d_T_takeRanges_62 ?_
  refine so_callV cl_0 f_M_load w_293 w_294 w_436 (by decide) (by decide) d_T_takeRanges_63 ?_
  exact so_jmp
def k_T_takeRanges_66 (G : oG) (Post : oP) : oK := o_istore 7 <| o_aload 0 <| o_getf 6 0 <| o_iload 1 <| o_iload 6 <| o_iload 7 <| o_iload 4 <| o_callV G 0 m_M_allows 4 <| o_jmp G m_T_takeRanges Post 82 [0, 1, 2, 3, 4, 5, 6, 7]
theorem s_T_takeRanges_66 {G : oG} {Post : oP} : oS G m_T_takeRanges Post 66 (k_T_takeRanges_66 G Post) := by
  unfold k_T_takeRanges_66
  refine so_istore d_T_takeRanges_66 (by decide) ?_
  refine so_aload_n d_T_takeRanges_68 rfl ?_
  refine so_getf cl_6 (k := 0) (by decide) w_196 d_T_takeRanges_69 ?_
  refine so_iload_n d_T_takeRanges_72 rfl ?_
  refine so_iload d_T_takeRanges_73 ?_
  refine so_iload d_T_takeRanges_75 ?_
  refine so_iload d_T_takeRanges_77 ?_
  refine so_callV cl_0 f_M_allows w_287 w_288 w_365 (by decide) (by decide) d_T_takeRanges_79 ?_
  exact so_jmp
def k_T_takeRanges_82 (G : oG) (Post : oP) : oK := o_ifne (o_aload 0 <| o_getf 6 6 <| o_iload 6 <| o_iload 7 <| o_callV G 4 m_R_add 2 <| o_jmp G m_T_takeRanges Post 98 [0, 1, 2, 3, 4, 5]) (o_iconst 0 <| o_zret Post)
theorem s_T_takeRanges_82 {G : oG} {Post : oP} : oS G m_T_takeRanges Post 82 (k_T_takeRanges_82 G Post) := by
  unfold k_T_takeRanges_82
  refine so_ifne d_T_takeRanges_82 (tgt := 87) (by decide) ?_ ?_
  · refine so_aload_n d_T_takeRanges_87 rfl ?_
    refine so_getf cl_6 (k := 6) (by decide) w_202 d_T_takeRanges_88 ?_
    refine so_iload d_T_takeRanges_91 ?_
    refine so_iload d_T_takeRanges_93 ?_
    refine so_callV cl_4 f_R_add w_375 w_376 w_518 (by decide) (by decide) d_T_takeRanges_95 ?_
    exact so_jmp
  · refine so_iconst d_T_takeRanges_85 rfl ?_
    exact so_zret d_T_takeRanges_86 rfl
def k_T_takeRanges_98 (G : oG) (Post : oP) : oK := o_iinc 5 1 <| o_jmp G m_T_takeRanges Post 28 [0, 1, 2, 3, 4, 5]
theorem s_T_takeRanges_98 {G : oG} {Post : oP} : oS G m_T_takeRanges Post 98 (k_T_takeRanges_98 G Post) := by
  unfold k_T_takeRanges_98
  refine so_iinc d_T_takeRanges_98 rfl (by decide) ?_
  refine so_goto d_T_takeRanges_101 (tgt := 28) (by decide) ?_
  exact so_jmp
theorem d_T_transferRanges_0 : decode prog_1_method_23_code 0 = .ok (.iload 5, 2) := by decide +kernel
theorem d_T_transferRanges_2 : decode prog_1_method_23_code 2 = .ok (.ifCond .lt 9, 3) := by decide +kernel
theorem d_T_transferRanges_5 : decode prog_1_method_23_code 5 = .ok (.iload 5, 2) := by decide +kernel
theorem d_T_transferRanges_7 : decode prog_1_method_23_code 7 = .ok (.iconst 4, 1) := by decide +kernel
theorem d_T_transferRanges_8 : decode prog_1_method_23_code 8 = .ok (.if_icmp .le 6, 3) := by decide +kernel
theorem d_T_transferRanges_11 : decode prog_1_method_23_code 11 = .ok (.bipush (-22), 2) := by decide +kernel
theorem d_T_transferRanges_13 : decode prog_1_method_23_code 13 = .ok (.ireturn, 1) := by decide +kernel
theorem d_T_transferRanges_14 : decode prog_1_method_23_code 14 = .ok (.aload_n 0, 1) := by decide +kernel
theorem d_T_transferRanges_15 : decode prog_1_method_23_code 15 = .ok (.getfield 30, 3) := by decide +kernel
theorem d_T_transferRanges_18 : decode prog_1_method_23_code 18 = .ok (.iload_n 1, 1) := by decide +kernel
theorem d_T_transferRanges_19 : decode prog_1_method_23_code 19 = .ok (.iload_n 3, 1) := by decide +kernel
theorem d_T_transferRanges_20 : decode prog_1_method_23_code 20 = .ok (.invokevirtual 193, 3) := by decide +kernel
theorem d_T_transferRanges_23 : decode prog_1_method_23_code 23 = .ok (.istore 6, 2) := by decide +kernel
theorem d_T_transferRanges_25 : decode prog_1_method_23_code 25 = .ok (.aload_n 0, 1) := by decide +kernel
theorem d_T_transferRanges_26 : decode prog_1_method_23_code 26 = .ok (.getfield 30, 3) := by decide +kernel
theorem d_T_transferRanges_29 : decode prog_1_method_23_code 29 = .ok (.iload 6, 2) := by decide +kernel
theorem d_T_transferRanges_31 : decode prog_1_method_23_code 31 = .ok (.iload_n 2, 1) := by decide +kernel
theorem d_T_transferRanges_32 : decode prog_1_method_23_code 32 = .ok (.invokevirtual 206, 3) := by decide +kernel
theorem d_T_transferRanges_35 : decode prog_1_method_23_code 35 = .ok (.ifCond .ne 6, 3) := by decide +kernel
theorem d_T_transferRanges_38 : decode prog_1_method_23_code 38 = .ok (.bipush (-9), 2) := by decide +kernel
theorem d_T_transferRanges_40 : decode prog_1_method_23_code 40 = .ok (.ireturn, 1) := by decide +kernel
theorem d_T_transferRanges_41 : decode prog_1_method_23_code 41 = .ok (.aload_n 0, 1) := by decide +kernel
theorem d_T_transferRanges_42 : decode prog_1_method_23_code 42 = .ok (.iload_n 1, 1) := by decide +kernel
theorem d_T_transferRanges_43 : decode prog_1_method_23_code 43 = .ok (.iload 4, 2) := by decide +kernel
theorem d_T_transferRanges_45 : decode prog_1_method_23_code 45 = .ok (.iload 5, 2) := by decide +kernel
theorem d_T_transferRanges_47 : decode prog_1_method_23_code 47 = .ok (.iload_n 2, 1) := by decide +kernel
theorem d_T_transferRanges_48 : decode prog_1_method_23_code 48 = .ok (.invokestatic 209, 3) := by decide +kernel
theorem d_T_transferRanges_51 : decode prog_1_method_23_code 51 = .ok (.invokevirtual 225, 3) := by decide +kernel
theorem d_T_transferRanges_54 : decode prog_1_method_23_code 54 = .ok (.ifCond .ne 6, 3) := by decide +kernel
theorem d_T_transferRanges_57 : decode prog_1_method_23_code 57 = .ok (.bipush (-14), 2) := by decide +kernel
theorem d_T_transferRanges_59 : decode prog_1_method_23_code 59 = .ok (.ireturn, 1) := by decide +kernel
theorem d_T_transferRanges_60 : decode prog_1_method_23_code 60 = .ok (.iload_n 2, 1) := by decide +kernel
theorem d_T_transferRanges_61 : decode prog_1_method_23_code 61 = .ok (.iconst 1, 1) := by decide +kernel
theorem d_T_transferRanges_62 : decode prog_1_method_23_code 62 = .ok (.if_icmp .ne 13, 3) := by decide +kernel
theorem d_T_transferRanges_65 : decode prog_1_method_23_code 65 = .ok (.aload_n 0, 1) := by decide +kernel
theorem d_T_transferRanges_66 : decode prog_1_method_23_code 66 = .ok (.iload_n 1, 1) := by decide +kernel
theorem d_T_transferRanges_67 : decode prog_1_method_23_code 67 = .ok (.iload 6, 2) := by decide +kernel
theorem d_T_transferRanges_69 : decode prog_1_method_23_code 69 = .ok (.invokevirtual 219, 3) := by decide +kernel
theorem d_T_transferRanges_72 : decode prog_1_method_23_code 72 = .ok (.goto 10, 3) := by decide +kernel
theorem d_T_transferRanges_75 : decode prog_1_method_23_code 75 = .ok (.aload_n 0, 1) := by decide +kernel
theorem d_T_transferRanges_76 : decode prog_1_method_23_code 76 = .ok (.iload_n 1, 1) := by decide +kernel
theorem d_T_transferRanges_77 : decode prog_1_method_23_code 77 = .ok (.iload 6, 2) := by decide +kernel
theorem d_T_transferRanges_79 : decode prog_1_method_23_code 79 = .ok (.invokevirtual 222, 3) := by decide +kernel
theorem d_T_transferRanges_82 : decode prog_1_method_23_code 82 = .ok (.ireturn, 1) := by decide +kernel
def k_T_transferRanges_0 (G : oG) (Post : oP) : oK := o_iload 5 <| o_iflt (o_iconst (-22) <| o_iret Post) (o_iload 5 <| o_iconst 4 <| o_icmple (o_aload 0 <| o_getf 6 3 <| o_iload 1 <| o_iload 3 <| o_callV G 2 m_O_at 2 <| o_jmp G m_T_transferRanges Post 23 [0, 1, 2, 4, 5]) (o_iconst (-22) <| o_iret Post))
theorem s_T_transferRanges_0 {G : oG} {Post : oP} : oS G m_T_transferRanges Post 0 (k_T_transferRanges_0 G Post) := by
  unfold k_T_transferRanges_0
  refine so_iload d_T_transferRanges_0 ?_
  refine so_iflt d_T_transferRanges_2 (tgt := 11) (by decide) ?_ ?_
  · refine so_bipush d_T_transferRanges_11 rfl ?_
    exact so_iret d_T_transferRanges_13 rfl
  · refine so_iload d_T_transferRanges_5 ?_
    refine so_iconst d_T_transferRanges_7 rfl ?_
    refine so_icmple d_T_transferRanges_8 (tgt := 14) (by decide) ?_ ?_
    · refine so_aload_n d_T_transferRanges_14 rfl ?_
      refine so_getf cl_6 (k := 3) (by decide) w_199 d_T_transferRanges_15 ?_
      refine so_iload_n d_T_transferRanges_18 rfl ?_
      refine so_iload_n d_T_transferRanges_19 rfl ?_
      refine so_callV cl_2 f_O_at w_346 w_347 w_345 (by decide) (by decide) d_T_transferRanges_20 ?_
      exact so_jmp
    · refine so_bipush d_T_transferRanges_11 rfl ?_
      exact so_iret d_T_transferRanges_13 rfl
def k_T_transferRanges_23 (G : oG) (Post : oP) : oK := o_istore 6 <| o_aload 0 <| o_getf 6 3 <| o_iload 6 <| o_iload 2 <| o_callV G 2 m_O_isFor 2 <| o_jmp G m_T_transferRanges Post 35 [0, 1, 2, 4, 5, 6]
theorem s_T_transferRanges_23 {G : oG} {Post : oP} : oS G m_T_transferRanges Post 23 (k_T_transferRanges_23 G Post) := by
  unfold k_T_transferRanges_23
  refine so_istore d_T_transferRanges_23 (by decide) ?_
  refine so_aload_n d_T_transferRanges_25 rfl ?_
  refine so_getf cl_6 (k := 3) (by decide) w_199 d_T_transferRanges_26 ?_
  refine so_iload d_T_transferRanges_29 ?_
  refine so_iload_n d_T_transferRanges_31 rfl ?_
  refine so_callV cl_2 f_O_isFor w_359 w_360 w_358 (by decide) (by decide) d_T_transferRanges_32 ?_
  exact so_jmp
def k_T_transferRanges_35 (G : oG) (Post : oP) : oK := o_ifne (o_aload 0 <| o_iload 1 <| o_iload 4 <| o_iload 5 <| o_iload 2 <| o_callS G m_T_flagFor 1 <| o_jmp G m_T_transferRanges Post 51 [0, 1, 2, 6]) (o_iconst (-9) <| o_iret Post)
theorem s_T_transferRanges_35 {G : oG} {Post : oP} : oS G m_T_transferRanges Post 35 (k_T_transferRanges_35 G Post) := by
  unfold k_T_transferRanges_35
  refine so_ifne d_T_transferRanges_35 (tgt := 41) (by decide) ?_ ?_
  · refine so_aload_n d_T_transferRanges_41 rfl ?_
    refine so_iload_n d_T_transferRanges_42 rfl ?_
    refine so_iload d_T_transferRanges_43 ?_
    refine so_iload d_T_transferRanges_45 ?_
    refine so_iload_n d_T_transferRanges_47 rfl ?_
    refine so_callS f_T_flagFor w_363 w_362 (by decide) (by decide) d_T_transferRanges_48 ?_
    exact so_jmp
  · refine so_bipush d_T_transferRanges_38 rfl ?_
    exact so_iret d_T_transferRanges_40 rfl
def k_T_transferRanges_51 (G : oG) (Post : oP) : oK := o_callV G 6 m_T_takeRanges 4 <| o_jmp G m_T_transferRanges Post 54 [0, 1, 2, 6]
theorem s_T_transferRanges_51 {G : oG} {Post : oP} : oS G m_T_transferRanges Post 51 (k_T_transferRanges_51 G Post) := by
  unfold k_T_transferRanges_51
  refine so_callV cl_6 f_T_takeRanges w_515 w_26 w_513 (by decide) (by decide) d_T_transferRanges_51 ?_
  exact so_jmp
def k_T_transferRanges_54 (G : oG) (Post : oP) : oK := o_ifne (o_iload 2 <| o_iconst 1 <| o_icmpne (o_aload 0 <| o_iload 1 <| o_iload 6 <| o_callV G 6 m_T_writeOpen 2 <| o_jmp G m_T_transferRanges Post 82 []) (o_aload 0 <| o_iload 1 <| o_iload 6 <| o_callV G 6 m_T_readOpen 2 <| o_jmp G m_T_transferRanges Post 72 [])) (o_iconst (-14) <| o_iret Post)
theorem s_T_transferRanges_54 {G : oG} {Post : oP} : oS G m_T_transferRanges Post 54 (k_T_transferRanges_54 G Post) := by
  unfold k_T_transferRanges_54
  refine so_ifne d_T_transferRanges_54 (tgt := 60) (by decide) ?_ ?_
  · refine so_iload_n d_T_transferRanges_60 rfl ?_
    refine so_iconst d_T_transferRanges_61 rfl ?_
    refine so_icmpne d_T_transferRanges_62 (tgt := 75) (by decide) ?_ ?_
    · refine so_aload_n d_T_transferRanges_75 rfl ?_
      refine so_iload_n d_T_transferRanges_76 rfl ?_
      refine so_iload d_T_transferRanges_77 ?_
      refine so_callV cl_6 f_T_writeOpen w_430 w_10 w_428 (by decide) (by decide) d_T_transferRanges_79 ?_
      exact so_jmp
    · refine so_aload_n d_T_transferRanges_65 rfl ?_
      refine so_iload_n d_T_transferRanges_66 rfl ?_
      refine so_iload d_T_transferRanges_67 ?_
      refine so_callV cl_6 f_T_readOpen w_380 w_6 w_378 (by decide) (by decide) d_T_transferRanges_69 ?_
      exact so_jmp
  · refine so_bipush d_T_transferRanges_57 rfl ?_
    exact so_iret d_T_transferRanges_59 rfl
def k_T_transferRanges_72 (G : oG) (Post : oP) : oK := o_jmp G m_T_transferRanges Post 82 []
theorem s_T_transferRanges_72 {G : oG} {Post : oP} : oS G m_T_transferRanges Post 72 (k_T_transferRanges_72 G Post) := by
  unfold k_T_transferRanges_72
  refine so_goto d_T_transferRanges_72 (tgt := 82) (by decide) ?_
  exact so_jmp
def k_T_transferRanges_82 (G : oG) (Post : oP) : oK := o_iret Post
theorem s_T_transferRanges_82 {G : oG} {Post : oP} : oS G m_T_transferRanges Post 82 (k_T_transferRanges_82 G Post) := by
  unfold k_T_transferRanges_82
  exact so_iret d_T_transferRanges_82 rfl
theorem d_T_rename_0 : decode prog_1_method_36_code 0 = .ok (.aload_n 0, 1) := by decide +kernel
theorem d_T_rename_1 : decode prog_1_method_36_code 1 = .ok (.getfield 12, 3) := by decide +kernel
theorem d_T_rename_4 : decode prog_1_method_36_code 4 = .ok (.iload_n 1, 1) := by decide +kernel
theorem d_T_rename_5 : decode prog_1_method_36_code 5 = .ok (.iload_n 2, 1) := by decide +kernel
theorem d_T_rename_6 : decode prog_1_method_36_code 6 = .ok (.invokevirtual 155, 3) := by decide +kernel
theorem d_T_rename_9 : decode prog_1_method_36_code 9 = .ok (.lstore 4, 2) := by decide +kernel
theorem d_T_rename_11 : decode prog_1_method_36_code 11 = .ok (.aload_n 0, 1) := by decide +kernel
theorem d_T_rename_12 : decode prog_1_method_36_code 12 = .ok (.getfield 12, 3) := by decide +kernel
theorem d_T_rename_15 : decode prog_1_method_36_code 15 = .ok (.iload_n 1, 1) := by decide +kernel
theorem d_T_rename_16 : decode prog_1_method_36_code 16 = .ok (.iload_n 3, 1) := by decide +kernel
theorem d_T_rename_17 : decode prog_1_method_36_code 17 = .ok (.invokevirtual 155, 3) := by decide +kernel
theorem d_T_rename_20 : decode prog_1_method_36_code 20 = .ok (.lstore 6, 2) := by decide +kernel
theorem d_T_rename_22 : decode prog_1_method_36_code 22 = .ok (.lload 4, 2) := by decide +kernel
theorem d_T_rename_24 : decode prog_1_method_36_code 24 = .ok (.ldc2_w 159, 3) := by decide +kernel
theorem d_T_rename_27 : decode prog_1_method_36_code 27 = .ok (.lcmp, 1) := by decide +kernel
theorem d_T_rename_28 : decode prog_1_method_36_code 28 = .ok (.ifCond .eq 12, 3) := by decide +kernel
theorem d_T_rename_31 : decode prog_1_method_36_code 31 = .ok (.lload 6, 2) := by decide +kernel
theorem d_T_rename_33 : decode prog_1_method_36_code 33 = .ok (.ldc2_w 159, 3) := by decide +kernel
theorem d_T_rename_36 : decode prog_1_method_36_code 36 = .ok (.lcmp, 1) := by decide +kernel
theorem d_T_rename_37 : decode prog_1_method_36_code 37 = .ok (.ifCond .ne 6, 3) := by decide +kernel
theorem d_T_rename_40 : decode prog_1_method_36_code 40 = .ok (.bipush (-14), 2) := by decide +kernel
theorem d_T_rename_42 : decode prog_1_method_36_code 42 = .ok (.ireturn, 1) := by decide +kernel
theorem d_T_rename_43 : decode prog_1_method_36_code 43 = .ok (.aload_n 0, 1) := by decide +kernel
theorem d_T_rename_44 : decode prog_1_method_36_code 44 = .ok (.getfield 23, 3) := by decide +kernel
theorem d_T_rename_47 : decode prog_1_method_36_code 47 = .ok (.lload 4, 2) := by decide +kernel
theorem d_T_rename_49 : decode prog_1_method_36_code 49 = .ok (.invokevirtual 161, 3) := by decide +kernel
theorem d_T_rename_52 : decode prog_1_method_36_code 52 = .ok (.istore 8, 2) := by decide +kernel
theorem d_T_rename_54 : decode prog_1_method_36_code 54 = .ok (.iload 8, 2) := by decide +kernel
theorem d_T_rename_56 : decode prog_1_method_36_code 56 = .ok (.iconst (-1), 1) := by decide +kernel
theorem d_T_rename_57 : decode prog_1_method_36_code 57 = .ok (.if_icmp .eq 10, 3) := by decide +kernel
theorem d_T_rename_60 : decode prog_1_method_36_code 60 = .ok (.lload 6, 2) := by decide +kernel
theorem d_T_rename_62 : decode prog_1_method_36_code 62 = .ok (.lconst 0, 1) := by decide +kernel
theorem d_T_rename_63 : decode prog_1_method_36_code 63 = .ok (.lcmp, 1) := by decide +kernel
theorem d_T_rename_64 : decode prog_1_method_36_code 64 = .ok (.ifCond .ne 6, 3) := by decide +kernel
theorem d_T_rename_67 : decode prog_1_method_36_code 67 = .ok (.bipush (-2), 2) := by decide +kernel
theorem d_T_rename_69 : decode prog_1_method_36_code 69 = .ok (.ireturn, 1) := by decide +kernel
theorem d_T_rename_70 : decode prog_1_method_36_code 70 = .ok (.lload 4, 2) := by decide +kernel
theorem d_T_rename_72 : decode prog_1_method_36_code 72 = .ok (.lload 6, 2) := by decide +kernel
theorem d_T_rename_74 : decode prog_1_method_36_code 74 = .ok (.lcmp, 1) := by decide +kernel
theorem d_T_rename_75 : decode prog_1_method_36_code 75 = .ok (.ifCond .ne 5, 3) := by decide +kernel
theorem d_T_rename_78 : decode prog_1_method_36_code 78 = .ok (.iconst 0, 1) := by decide +kernel
theorem d_T_rename_79 : decode prog_1_method_36_code 79 = .ok (.ireturn, 1) := by decide +kernel
theorem d_T_rename_80 : decode prog_1_method_36_code 80 = .ok (.aload_n 0, 1) := by decide +kernel
theorem d_T_rename_81 : decode prog_1_method_36_code 81 = .ok (.getfield 23, 3) := by decide +kernel
theorem d_T_rename_84 : decode prog_1_method_36_code 84 = .ok (.getfield 174, 3) := by decide +kernel
theorem d_T_rename_87 : decode prog_1_method_36_code 87 = .ok (.iload 8, 2) := by decide +kernel
theorem d_T_rename_89 : decode prog_1_method_36_code 89 = .ok (.iaload, 1) := by decide +kernel
theorem d_T_rename_90 : decode prog_1_method_36_code 90 = .ok (.istore 9, 2) := by decide +kernel
theorem d_T_rename_92 : decode prog_1_method_36_code 92 = .ok (.aload_n 0, 1) := by decide +kernel
theorem d_T_rename_93 : decode prog_1_method_36_code 93 = .ok (.getfield 23, 3) := by decide +kernel
theorem d_T_rename_96 : decode prog_1_method_36_code 96 = .ok (.iload 8, 2) := by decide +kernel
theorem d_T_rename_98 : decode prog_1_method_36_code 98 = .ok (.invokevirtual 294, 3) := by decide +kernel
theorem d_T_rename_101 : decode prog_1_method_36_code 101 = .ok (.aload_n 0, 1) := by decide +kernel
theorem d_T_rename_102 : decode prog_1_method_36_code 102 = .ok (.getfield 23, 3) := by decide +kernel
theorem d_T_rename_105 : decode prog_1_method_36_code 105 = .ok (.lload 6, 2) := by decide +kernel
theorem d_T_rename_107 : decode prog_1_method_36_code 107 = .ok (.invokevirtual 161, 3) := by decide +kernel
theorem d_T_rename_110 : decode prog_1_method_36_code 110 = .ok (.istore 10, 2) := by decide +kernel
theorem d_T_rename_112 : decode prog_1_method_36_code 112 = .ok (.iload 10, 2) := by decide +kernel
theorem d_T_rename_114 : decode prog_1_method_36_code 114 = .ok (.iconst (-1), 1) := by decide +kernel
theorem d_T_rename_115 : decode prog_1_method_36_code 115 = .ok (.if_icmp .eq 12, 3) := by decide +kernel
theorem d_T_rename_118 : decode prog_1_method_36_code 118 = .ok (.aload_n 0, 1) := by decide +kernel
theorem d_T_rename_119 : decode prog_1_method_36_code 119 = .ok (.getfield 23, 3) := by decide +kernel
theorem d_T_rename_122 : decode prog_1_method_36_code 122 = .ok (.iload 10, 2) := by decide +kernel
theorem d_T_rename_124 : decode prog_1_method_36_code 124 = .ok (.invokevirtual 294, 3) := by decide +kernel
theorem d_T_rename_127 : decode prog_1_method_36_code 127 = .ok (.aload_n 0, 1) := by decide +kernel
theorem d_T_rename_128 : decode prog_1_method_36_code 128 = .ok (.getfield 23, 3) := by decide +kernel
theorem d_T_rename_131 : decode prog_1_method_36_code 131 = .ok (.lload 6, 2) := by decide +kernel
theorem d_T_rename_133 : decode prog_1_method_36_code 133 = .ok (.iload 9, 2) := by decide +kernel
theorem d_T_rename_135 : decode prog_1_method_36_code 135 = .ok (.invokevirtual 180, 3) := by decide +kernel
theorem d_T_rename_138 : decode prog_1_method_36_code 138 = .ok (.iconst 0, 1) := by decide +kernel
theorem d_T_rename_139 : decode prog_1_method_36_code 139 = .ok (.ireturn, 1) := by decide +kernel
def k_T_rename_0 (G : oG) (Post : oP) : oK := o_aload 0 <| o_getf 6 0 <| o_iload 1 <| o_iload 2 <| o_callV G 0 m_M_textAt 2 <| o_jmp G m_T_rename Post 9 [0, 1, 3]
theorem s_T_rename_0 {G : oG} {Post : oP} : oS G m_T_rename Post 0 (k_T_rename_0 G Post) := by
  unfold k_T_rename_0
  refine so_aload_n d_T_rename_0 rfl ?_
  refine so_getf cl_6 (k := 0) (by decide) w_196 d_T_rename_1 ?_
  refine so_iload_n d_T_rename_4 rfl ?_
  refine so_iload_n d_T_rename_5 rfl ?_
  refine so_callV cl_0 f_M_textAt w_283 w_284 w_282 (by decide) (by decide) d_T_rename_6 ?_
  exact so_jmp
def k_T_rename_9 (G : oG) (Post : oP) : oK := o_lstore 4 <| o_aload 0 <| o_getf 6 0 <| o_iload 1 <| o_iload 3 <| o_callV G 0 m_M_textAt 2 <| o_jmp G m_T_rename Post 20 [0, 4]
theorem s_T_rename_9 {G : oG} {Post : oP} : oS G m_T_rename Post 9 (k_T_rename_9 G Post) := by
  unfold k_T_rename_9
  refine so_lstore d_T_rename_9 (by decide) ?_
  refine so_aload_n d_T_rename_11 rfl ?_
  refine so_getf cl_6 (k := 0) (by decide) w_196 d_T_rename_12 ?_
  refine so_iload_n d_T_rename_15 rfl ?_
  refine so_iload_n d_T_rename_16 rfl ?_
  refine so_callV cl_0 f_M_textAt w_283 w_284 w_282 (by decide) (by decide) d_T_rename_17 ?_
  exact so_jmp
def k_T_rename_20 (G : oG) (Post : oP) : oK := o_lstore 6 <| o_lload 4 <| o_lconst (-1) <| o_lcmp <| o_ifeq (o_iconst (-14) <| o_iret Post) (o_lload 6 <| o_lconst (-1) <| o_lcmp <| o_ifne (o_aload 0 <| o_getf 6 2 <| o_lload 4 <| o_callV G 1 m_N_find 1 <| o_jmp G m_T_rename Post 52 [0, 4, 6]) (o_iconst (-14) <| o_iret Post))
theorem s_T_rename_20 {G : oG} {Post : oP} : oS G m_T_rename Post 20 (k_T_rename_20 G Post) := by
  unfold k_T_rename_20
  refine so_lstore d_T_rename_20 (by decide) ?_
  refine so_lload d_T_rename_22 ?_
  refine so_ldc2 w_296 d_T_rename_24 ?_
  refine so_lcmp d_T_rename_27 ?_
  refine so_ifeq d_T_rename_28 (tgt := 40) (by decide) ?_ ?_
  · refine so_bipush d_T_rename_40 rfl ?_
    exact so_iret d_T_rename_42 rfl
  · refine so_lload d_T_rename_31 ?_
    refine so_ldc2 w_296 d_T_rename_33 ?_
    refine so_lcmp d_T_rename_36 ?_
    refine so_ifne d_T_rename_37 (tgt := 43) (by decide) ?_ ?_
    · refine so_aload_n d_T_rename_43 rfl ?_
      refine so_getf cl_6 (k := 2) (by decide) w_198 d_T_rename_44 ?_
      refine so_lload d_T_rename_47 ?_
      refine so_callV cl_1 f_N_find w_298 w_299 w_297 (by decide) (by decide) d_T_rename_49 ?_
      exact so_jmp
    · refine so_bipush d_T_rename_40 rfl ?_
      exact so_iret d_T_rename_42 rfl
def k_T_rename_52 (G : oG) (Post : oP) : oK := o_istore 8 <| o_iload 8 <| o_iconst (-1) <| o_icmpeq (o_iconst (-2) <| o_iret Post) (o_lload 6 <| o_lconst 0 <| o_lcmp <| o_ifne (o_jmp G m_T_rename Post 70 [0, 4, 6, 8]) (o_iconst (-2) <| o_iret Post))
theorem s_T_rename_52 {G : oG} {Post : oP} : oS G m_T_rename Post 52 (k_T_rename_52 G Post) := by
  unfold k_T_rename_52
  refine so_istore d_T_rename_52 (by decide) ?_
  refine so_iload d_T_rename_54 ?_
  refine so_iconst d_T_rename_56 rfl ?_
  refine so_icmpeq d_T_rename_57 (tgt := 67) (by decide) ?_ ?_
  · refine so_bipush d_T_rename_67 rfl ?_
    exact so_iret d_T_rename_69 rfl
  · refine so_lload d_T_rename_60 ?_
    refine so_lconst d_T_rename_62 rfl ?_
    refine so_lcmp d_T_rename_63 ?_
    refine so_ifne d_T_rename_64 (tgt := 70) (by decide) ?_ ?_
    · exact so_jmp
    · refine so_bipush d_T_rename_67 rfl ?_
      exact so_iret d_T_rename_69 rfl
def k_T_rename_70 (G : oG) (Post : oP) : oK := o_lload 4 <| o_lload 6 <| o_lcmp <| o_ifne (o_aload 0 <| o_getf 6 2 <| o_getf 1 1 <| o_iload 8 <| o_iald G <| o_istore 9 <| o_aload 0 <| o_getf 6 2 <| o_iload 8 <| o_callV G 1 m_N_remove 1 <| o_jmp G m_T_rename Post 101 [0, 6, 9]) (o_iconst 0 <| o_iret Post)
theorem s_T_rename_70 {G : oG} {Post : oP} : oS G m_T_rename Post 70 (k_T_rename_70 G Post) := by
  unfold k_T_rename_70
  refine so_lload d_T_rename_70 ?_
  refine so_lload d_T_rename_72 ?_
  refine so_lcmp d_T_rename_74 ?_
  refine so_ifne d_T_rename_75 (tgt := 80) (by decide) ?_ ?_
  · refine so_aload_n d_T_rename_80 rfl ?_
    refine so_getf cl_6 (k := 2) (by decide) w_198 d_T_rename_81 ?_
    refine so_getfN cl_1 (k := 1) (by decide) w_114 d_T_rename_84 ?_
    refine so_iload d_T_rename_87 ?_
    refine so_iald d_T_rename_89 ?_
    refine so_istore d_T_rename_90 (by decide) ?_
    refine so_aload_n d_T_rename_92 rfl ?_
    refine so_getf cl_6 (k := 2) (by decide) w_198 d_T_rename_93 ?_
    refine so_iload d_T_rename_96 ?_
    refine so_callV cl_1 f_N_remove w_467 w_468 w_466 (by decide) (by decide) d_T_rename_98 ?_
    exact so_jmp
  · refine so_iconst d_T_rename_78 rfl ?_
    exact so_iret d_T_rename_79 rfl
def k_T_rename_101 (G : oG) (Post : oP) : oK := o_aload 0 <| o_getf 6 2 <| o_lload 6 <| o_callV G 1 m_N_find 1 <| o_jmp G m_T_rename Post 110 [0, 6, 9]
theorem s_T_rename_101 {G : oG} {Post : oP} : oS G m_T_rename Post 101 (k_T_rename_101 G Post) := by
  unfold k_T_rename_101
  refine so_aload_n d_T_rename_101 rfl ?_
  refine so_getf cl_6 (k := 2) (by decide) w_198 d_T_rename_102 ?_
  refine so_lload d_T_rename_105 ?_
  refine so_callV cl_1 f_N_find w_298 w_299 w_297 (by decide) (by decide) d_T_rename_107 ?_
  exact so_jmp
def k_T_rename_110 (G : oG) (Post : oP) : oK := o_istore 10 <| o_iload 10 <| o_iconst (-1) <| o_icmpeq (o_jmp G m_T_rename Post 127 [0, 6, 9]) (o_aload 0 <| o_getf 6 2 <| o_iload 10 <| o_callV G 1 m_N_remove 1 <| o_jmp G m_T_rename Post 127 [0, 6, 9])
theorem s_T_rename_110 {G : oG} {Post : oP} : oS G m_T_rename Post 110 (k_T_rename_110 G Post) := by
  unfold k_T_rename_110
  refine so_istore d_T_rename_110 (by decide) ?_
  refine so_iload d_T_rename_112 ?_
  refine so_iconst d_T_rename_114 rfl ?_
  refine so_icmpeq d_T_rename_115 (tgt := 127) (by decide) ?_ ?_
  · exact so_jmp
  · refine so_aload_n d_T_rename_118 rfl ?_
    refine so_getf cl_6 (k := 2) (by decide) w_198 d_T_rename_119 ?_
    refine so_iload d_T_rename_122 ?_
    refine so_callV cl_1 f_N_remove w_467 w_468 w_466 (by decide) (by decide) d_T_rename_124 ?_
    exact so_jmp
def k_T_rename_127 (G : oG) (Post : oP) : oK := o_aload 0 <| o_getf 6 2 <| o_lload 6 <| o_iload 9 <| o_callV G 1 m_N_add 2 <| o_jmp G m_T_rename Post 138 []
theorem s_T_rename_127 {G : oG} {Post : oP} : oS G m_T_rename Post 127 (k_T_rename_127 G Post) := by
  unfold k_T_rename_127
  refine so_aload_n d_T_rename_127 rfl ?_
  refine so_getf cl_6 (k := 2) (by decide) w_198 d_T_rename_128 ?_
  refine so_lload d_T_rename_131 ?_
  refine so_iload d_T_rename_133 ?_
  refine so_callV cl_1 f_N_add w_330 w_331 w_329 (by decide) (by decide) d_T_rename_135 ?_
  exact so_jmp
def k_T_rename_138 (G : oG) (Post : oP) : oK := o_iconst 0 <| o_iret Post
theorem s_T_rename_138 {G : oG} {Post : oP} : oS G m_T_rename Post 138 (k_T_rename_138 G Post) := by
  unfold k_T_rename_138
  refine so_iconst d_T_rename_138 rfl ?_
  exact so_iret d_T_rename_139 rfl
theorem d_T_serve_0 : decode prog_1_method_16_code 0 = .ok (.aload_n 0, 1) := by decide +kernel
theorem d_T_serve_1 : decode prog_1_method_16_code 1 = .ok (.getfield 16, 3) := by decide +kernel
theorem d_T_serve_4 : decode prog_1_method_16_code 4 = .ok (.iload_n 1, 1) := by decide +kernel
theorem d_T_serve_5 : decode prog_1_method_16_code 5 = .ok (.iconst 3, 1) := by decide +kernel
theorem d_T_serve_6 : decode prog_1_method_16_code 6 = .ok (.imul, 1) := by decide +kernel
theorem d_T_serve_7 : decode prog_1_method_16_code 7 = .ok (.iaload, 1) := by decide +kernel
theorem d_T_serve_8 : decode prog_1_method_16_code 8 = .ok (.istore_n 3, 1) := by decide +kernel
theorem d_T_serve_9 : decode prog_1_method_16_code 9 = .ok (.aload_n 0, 1) := by decide +kernel
theorem d_T_serve_10 : decode prog_1_method_16_code 10 = .ok (.getfield 16, 3) := by decide +kernel
theorem d_T_serve_13 : decode prog_1_method_16_code 13 = .ok (.iload_n 1, 1) := by decide +kernel
theorem d_T_serve_14 : decode prog_1_method_16_code 14 = .ok (.iconst 3, 1) := by decide +kernel
theorem d_T_serve_15 : decode prog_1_method_16_code 15 = .ok (.imul, 1) := by decide +kernel
theorem d_T_serve_16 : decode prog_1_method_16_code 16 = .ok (.iconst 1, 1) := by decide +kernel
theorem d_T_serve_17 : decode prog_1_method_16_code 17 = .ok (.iadd, 1) := by decide +kernel
theorem d_T_serve_18 : decode prog_1_method_16_code 18 = .ok (.iaload, 1) := by decide +kernel
theorem d_T_serve_19 : decode prog_1_method_16_code 19 = .ok (.istore 4, 2) := by decide +kernel
theorem d_T_serve_21 : decode prog_1_method_16_code 21 = .ok (.aload_n 0, 1) := by decide +kernel
theorem d_T_serve_22 : decode prog_1_method_16_code 22 = .ok (.getfield 16, 3) := by decide +kernel
theorem d_T_serve_25 : decode prog_1_method_16_code 25 = .ok (.iload_n 1, 1) := by decide +kernel
theorem d_T_serve_26 : decode prog_1_method_16_code 26 = .ok (.iconst 3, 1) := by decide +kernel
theorem d_T_serve_27 : decode prog_1_method_16_code 27 = .ok (.imul, 1) := by decide +kernel
theorem d_T_serve_28 : decode prog_1_method_16_code 28 = .ok (.iconst 2, 1) := by decide +kernel
theorem d_T_serve_29 : decode prog_1_method_16_code 29 = .ok (.iadd, 1) := by decide +kernel
theorem d_T_serve_30 : decode prog_1_method_16_code 30 = .ok (.iaload, 1) := by decide +kernel
theorem d_T_serve_31 : decode prog_1_method_16_code 31 = .ok (.istore 5, 2) := by decide +kernel
theorem d_T_serve_33 : decode prog_1_method_16_code 33 = .ok (.iload_n 2, 1) := by decide +kernel
theorem d_T_serve_34 : decode prog_1_method_16_code 34 = .ok (.tableswitch 243 0 17 #[86, 88, 93, 102, 109, 121, 133, 142, 149, 156, 165, 174, 181, 190, 201, 210, 222, 234], 86) := by decide +kernel
theorem d_T_serve_120 : decode prog_1_method_16_code 120 = .ok (.iload_n 1, 1) := by decide +kernel
theorem d_T_serve_121 : decode prog_1_method_16_code 121 = .ok (.ireturn, 1) := by decide +kernel
theorem d_T_serve_122 : decode prog_1_method_16_code 122 = .ok (.aload_n 0, 1) := by decide +kernel
theorem d_T_serve_123 : decode prog_1_method_16_code 123 = .ok (.getfield 56, 3) := by decide +kernel
theorem d_T_serve_126 : decode prog_1_method_16_code 126 = .ok (.ireturn, 1) := by decide +kernel
theorem d_T_serve_127 : decode prog_1_method_16_code 127 = .ok (.aload_n 0, 1) := by decide +kernel
theorem d_T_serve_128 : decode prog_1_method_16_code 128 = .ok (.iload_n 1, 1) := by decide +kernel
theorem d_T_serve_129 : decode prog_1_method_16_code 129 = .ok (.iload_n 3, 1) := by decide +kernel
theorem d_T_serve_130 : decode prog_1_method_16_code 130 = .ok (.iload 4, 2) := by decide +kernel
theorem d_T_serve_132 : decode prog_1_method_16_code 132 = .ok (.invokevirtual 107, 3) := by decide +kernel
theorem d_T_serve_135 : decode prog_1_method_16_code 135 = .ok (.ireturn, 1) := by decide +kernel
theorem d_T_serve_136 : decode prog_1_method_16_code 136 = .ok (.aload_n 0, 1) := by decide +kernel
theorem d_T_serve_137 : decode prog_1_method_16_code 137 = .ok (.iload_n 1, 1) := by decide +kernel
theorem d_T_serve_138 : decode prog_1_method_16_code 138 = .ok (.iload_n 3, 1) := by decide +kernel
theorem d_T_serve_139 : decode prog_1_method_16_code 139 = .ok (.invokevirtual 111, 3) := by decide +kernel
theorem d_T_serve_142 : decode prog_1_method_16_code 142 = .ok (.ireturn, 1) := by decide +kernel
theorem d_T_serve_143 : decode prog_1_method_16_code 143 = .ok (.aload_n 0, 1) := by decide +kernel
theorem d_T_serve_144 : decode prog_1_method_16_code 144 = .ok (.iload_n 1, 1) := by decide +kernel
theorem d_T_serve_145 : decode prog_1_method_16_code 145 = .ok (.iconst 1, 1) := by decide +kernel
theorem d_T_serve_146 : decode prog_1_method_16_code 146 = .ok (.iload_n 3, 1) := by decide +kernel
theorem d_T_serve_147 : decode prog_1_method_16_code 147 = .ok (.iload 4, 2) := by decide +kernel
theorem d_T_serve_149 : decode prog_1_method_16_code 149 = .ok (.iload 5, 2) := by decide +kernel
theorem d_T_serve_151 : decode prog_1_method_16_code 151 = .ok (.invokevirtual 114, 3) := by decide +kernel
theorem d_T_serve_154 : decode prog_1_method_16_code 154 = .ok (.ireturn, 1) := by decide +kernel
theorem d_T_serve_155 : decode prog_1_method_16_code 155 = .ok (.aload_n 0, 1) := by decide +kernel
theorem d_T_serve_156 : decode prog_1_method_16_code 156 = .ok (.iload_n 1, 1) := by decide +kernel
theorem d_T_serve_157 : decode prog_1_method_16_code 157 = .ok (.iconst 2, 1) := by decide +kernel
theorem d_T_serve_158 : decode prog_1_method_16_code 158 = .ok (.iload_n 3, 1) := by decide +kernel
theorem d_T_serve_159 : decode prog_1_method_16_code 159 = .ok (.iload 4, 2) := by decide +kernel
theorem d_T_serve_161 : decode prog_1_method_16_code 161 = .ok (.iload 5, 2) := by decide +kernel
theorem d_T_serve_163 : decode prog_1_method_16_code 163 = .ok (.invokevirtual 114, 3) := by decide +kernel
theorem d_T_serve_166 : decode prog_1_method_16_code 166 = .ok (.ireturn, 1) := by decide +kernel
theorem d_T_serve_167 : decode prog_1_method_16_code 167 = .ok (.aload_n 0, 1) := by decide +kernel
theorem d_T_serve_168 : decode prog_1_method_16_code 168 = .ok (.iload_n 1, 1) := by decide +kernel
theorem d_T_serve_169 : decode prog_1_method_16_code 169 = .ok (.iload_n 3, 1) := by decide +kernel
theorem d_T_serve_170 : decode prog_1_method_16_code 170 = .ok (.iload 4, 2) := by decide +kernel
theorem d_T_serve_172 : decode prog_1_method_16_code 172 = .ok (.invokevirtual 118, 3) := by decide +kernel
theorem d_T_serve_175 : decode prog_1_method_16_code 175 = .ok (.ireturn, 1) := by decide +kernel
theorem d_T_serve_176 : decode prog_1_method_16_code 176 = .ok (.aload_n 0, 1) := by decide +kernel
theorem d_T_serve_177 : decode prog_1_method_16_code 177 = .ok (.iload_n 1, 1) := by decide +kernel
theorem d_T_serve_178 : decode prog_1_method_16_code 178 = .ok (.iload_n 3, 1) := by decide +kernel
theorem d_T_serve_179 : decode prog_1_method_16_code 179 = .ok (.invokevirtual 121, 3) := by decide +kernel
theorem d_T_serve_182 : decode prog_1_method_16_code 182 = .ok (.ireturn, 1) := by decide +kernel
theorem d_T_serve_183 : decode prog_1_method_16_code 183 = .ok (.aload_n 0, 1) := by decide +kernel
theorem d_T_serve_184 : decode prog_1_method_16_code 184 = .ok (.iload_n 1, 1) := by decide +kernel
theorem d_T_serve_185 : decode prog_1_method_16_code 185 = .ok (.iload_n 3, 1) := by decide +kernel
theorem d_T_serve_186 : decode prog_1_method_16_code 186 = .ok (.invokevirtual 124, 3) := by decide +kernel
theorem d_T_serve_189 : decode prog_1_method_16_code 189 = .ok (.ireturn, 1) := by decide +kernel
theorem d_T_serve_190 : decode prog_1_method_16_code 190 = .ok (.aload_n 0, 1) := by decide +kernel
theorem d_T_serve_191 : decode prog_1_method_16_code 191 = .ok (.iload_n 1, 1) := by decide +kernel
theorem d_T_serve_192 : decode prog_1_method_16_code 192 = .ok (.iload_n 3, 1) := by decide +kernel
theorem d_T_serve_193 : decode prog_1_method_16_code 193 = .ok (.iload 4, 2) := by decide +kernel
theorem d_T_serve_195 : decode prog_1_method_16_code 195 = .ok (.invokevirtual 127, 3) := by decide +kernel
theorem d_T_serve_198 : decode prog_1_method_16_code 198 = .ok (.ireturn, 1) := by decide +kernel
theorem d_T_serve_199 : decode prog_1_method_16_code 199 = .ok (.aload_n 0, 1) := by decide +kernel
theorem d_T_serve_200 : decode prog_1_method_16_code 200 = .ok (.iload_n 1, 1) := by decide +kernel
theorem d_T_serve_201 : decode prog_1_method_16_code 201 = .ok (.iload_n 3, 1) := by decide +kernel
theorem d_T_serve_202 : decode prog_1_method_16_code 202 = .ok (.iload 4, 2) := by decide +kernel
theorem d_T_serve_204 : decode prog_1_method_16_code 204 = .ok (.invokevirtual 130, 3) := by decide +kernel
theorem d_T_serve_207 : decode prog_1_method_16_code 207 = .ok (.ireturn, 1) := by decide +kernel
theorem d_T_serve_208 : decode prog_1_method_16_code 208 = .ok (.aload_n 0, 1) := by decide +kernel
theorem d_T_serve_209 : decode prog_1_method_16_code 209 = .ok (.iload_n 1, 1) := by decide +kernel
theorem d_T_serve_210 : decode prog_1_method_16_code 210 = .ok (.iload_n 3, 1) := by decide +kernel
theorem d_T_serve_211 : decode prog_1_method_16_code 211 = .ok (.invokevirtual 133, 3) := by decide +kernel
theorem d_T_serve_214 : decode prog_1_method_16_code 214 = .ok (.ireturn, 1) := by decide +kernel
theorem d_T_serve_215 : decode prog_1_method_16_code 215 = .ok (.aload_n 0, 1) := by decide +kernel
theorem d_T_serve_216 : decode prog_1_method_16_code 216 = .ok (.iload_n 1, 1) := by decide +kernel
theorem d_T_serve_217 : decode prog_1_method_16_code 217 = .ok (.iload_n 3, 1) := by decide +kernel
theorem d_T_serve_218 : decode prog_1_method_16_code 218 = .ok (.iload 4, 2) := by decide +kernel
theorem d_T_serve_220 : decode prog_1_method_16_code 220 = .ok (.invokevirtual 136, 3) := by decide +kernel
theorem d_T_serve_223 : decode prog_1_method_16_code 223 = .ok (.ireturn, 1) := by decide +kernel
theorem d_T_serve_224 : decode prog_1_method_16_code 224 = .ok (.aload_n 0, 1) := by decide +kernel
theorem d_T_serve_225 : decode prog_1_method_16_code 225 = .ok (.iload_n 1, 1) := by decide +kernel
theorem d_T_serve_226 : decode prog_1_method_16_code 226 = .ok (.iload_n 3, 1) := by decide +kernel
theorem d_T_serve_227 : decode prog_1_method_16_code 227 = .ok (.iload 4, 2) := by decide +kernel
theorem d_T_serve_229 : decode prog_1_method_16_code 229 = .ok (.iload 5, 2) := by decide +kernel
theorem d_T_serve_231 : decode prog_1_method_16_code 231 = .ok (.invokevirtual 139, 3) := by decide +kernel
theorem d_T_serve_234 : decode prog_1_method_16_code 234 = .ok (.ireturn, 1) := by decide +kernel
theorem d_T_serve_235 : decode prog_1_method_16_code 235 = .ok (.aload_n 0, 1) := by decide +kernel
theorem d_T_serve_236 : decode prog_1_method_16_code 236 = .ok (.iload_n 1, 1) := by decide +kernel
theorem d_T_serve_237 : decode prog_1_method_16_code 237 = .ok (.iload_n 3, 1) := by decide +kernel
theorem d_T_serve_238 : decode prog_1_method_16_code 238 = .ok (.iload 4, 2) := by decide +kernel
theorem d_T_serve_240 : decode prog_1_method_16_code 240 = .ok (.invokevirtual 143, 3) := by decide +kernel
theorem d_T_serve_243 : decode prog_1_method_16_code 243 = .ok (.ireturn, 1) := by decide +kernel
theorem d_T_serve_244 : decode prog_1_method_16_code 244 = .ok (.aload_n 0, 1) := by decide +kernel
theorem d_T_serve_245 : decode prog_1_method_16_code 245 = .ok (.iload_n 1, 1) := by decide +kernel
theorem d_T_serve_246 : decode prog_1_method_16_code 246 = .ok (.iconst 1, 1) := by decide +kernel
theorem d_T_serve_247 : decode prog_1_method_16_code 247 = .ok (.iload_n 3, 1) := by decide +kernel
theorem d_T_serve_248 : decode prog_1_method_16_code 248 = .ok (.iload 4, 2) := by decide +kernel
theorem d_T_serve_250 : decode prog_1_method_16_code 250 = .ok (.iload 5, 2) := by decide +kernel
theorem d_T_serve_252 : decode prog_1_method_16_code 252 = .ok (.invokevirtual 146, 3) := by decide +kernel
theorem d_T_serve_255 : decode prog_1_method_16_code 255 = .ok (.ireturn, 1) := by decide +kernel
theorem d_T_serve_256 : decode prog_1_method_16_code 256 = .ok (.aload_n 0, 1) := by decide +kernel
theorem d_T_serve_257 : decode prog_1_method_16_code 257 = .ok (.iload_n 1, 1) := by decide +kernel
theorem d_T_serve_258 : decode prog_1_method_16_code 258 = .ok (.iconst 2, 1) := by decide +kernel
theorem d_T_serve_259 : decode prog_1_method_16_code 259 = .ok (.iload_n 3, 1) := by decide +kernel
theorem d_T_serve_260 : decode prog_1_method_16_code 260 = .ok (.iload 4, 2) := by decide +kernel
theorem d_T_serve_262 : decode prog_1_method_16_code 262 = .ok (.iload 5, 2) := by decide +kernel
theorem d_T_serve_264 : decode prog_1_method_16_code 264 = .ok (.invokevirtual 146, 3) := by decide +kernel
theorem d_T_serve_267 : decode prog_1_method_16_code 267 = .ok (.ireturn, 1) := by decide +kernel
theorem d_T_serve_268 : decode prog_1_method_16_code 268 = .ok (.aload_n 0, 1) := by decide +kernel
theorem d_T_serve_269 : decode prog_1_method_16_code 269 = .ok (.iload_n 1, 1) := by decide +kernel
theorem d_T_serve_270 : decode prog_1_method_16_code 270 = .ok (.iload_n 3, 1) := by decide +kernel
theorem d_T_serve_271 : decode prog_1_method_16_code 271 = .ok (.iload 4, 2) := by decide +kernel
theorem d_T_serve_273 : decode prog_1_method_16_code 273 = .ok (.invokevirtual 149, 3) := by decide +kernel
theorem d_T_serve_276 : decode prog_1_method_16_code 276 = .ok (.ireturn, 1) := by decide +kernel
theorem d_T_serve_277 : decode prog_1_method_16_code 277 = .ok (.bipush (-38), 2) := by decide +kernel
theorem d_T_serve_279 : decode prog_1_method_16_code 279 = .ok (.ireturn, 1) := by decide +kernel
def k_T_serve_0 (G : oG) (Post : oP) : oK := o_aload 0 <| o_getf 6 1 <| o_iload 1 <| o_iconst 3 <| o_imul <| o_iald G <| o_istore 3 <| o_aload 0 <| o_getf 6 1 <| o_iload 1 <| o_iconst 3 <| o_imul <| o_iconst 1 <| o_iadd <| o_iald G <| o_istore 4 <| o_aload 0 <| o_getf 6 1 <| o_iload 1 <| o_iconst 3 <| o_imul <| o_iconst 2 <| o_iadd <| o_iald G <| o_istore 5 <| o_iload 2 <| o_tsw G m_T_serve Post 0 [120, 122, 127, 136, 143, 155, 167, 176, 183, 190, 199, 208, 215, 224, 235, 244, 256, 268] 277 [0, 1, 3, 4, 5]
theorem s_T_serve_0 {G : oG} {Post : oP} : oS G m_T_serve Post 0 (k_T_serve_0 G Post) := by
  unfold k_T_serve_0
  refine so_aload_n d_T_serve_0 rfl ?_
  refine so_getf cl_6 (k := 1) (by decide) w_197 d_T_serve_1 ?_
  refine so_iload_n d_T_serve_4 rfl ?_
  refine so_iconst d_T_serve_5 rfl ?_
  refine so_imul d_T_serve_6 ?_
  refine so_iald d_T_serve_7 ?_
  refine so_istore_n d_T_serve_8 rfl (by decide) ?_
  refine so_aload_n d_T_serve_9 rfl ?_
  refine so_getf cl_6 (k := 1) (by decide) w_197 d_T_serve_10 ?_
  refine so_iload_n d_T_serve_13 rfl ?_
  refine so_iconst d_T_serve_14 rfl ?_
  refine so_imul d_T_serve_15 ?_
  refine so_iconst d_T_serve_16 rfl ?_
  refine so_iadd d_T_serve_17 ?_
  refine so_iald d_T_serve_18 ?_
  refine so_istore d_T_serve_19 (by decide) ?_
  refine so_aload_n d_T_serve_21 rfl ?_
  refine so_getf cl_6 (k := 1) (by decide) w_197 d_T_serve_22 ?_
  refine so_iload_n d_T_serve_25 rfl ?_
  refine so_iconst d_T_serve_26 rfl ?_
  refine so_imul d_T_serve_27 ?_
  refine so_iconst d_T_serve_28 rfl ?_
  refine so_iadd d_T_serve_29 ?_
  refine so_iald d_T_serve_30 ?_
  refine so_istore d_T_serve_31 (by decide) ?_
  refine so_iload_n d_T_serve_33 rfl ?_
  exact so_tsw d_T_serve_34 (by decide) (by decide) (by decide)
def k_T_serve_120 (G : oG) (Post : oP) : oK := o_iload 1 <| o_iret Post
theorem s_T_serve_120 {G : oG} {Post : oP} : oS G m_T_serve Post 120 (k_T_serve_120 G Post) := by
  unfold k_T_serve_120
  refine so_iload_n d_T_serve_120 rfl ?_
  exact so_iret d_T_serve_121 rfl
def k_T_serve_122 (G : oG) (Post : oP) : oK := o_aload 0 <| o_getf 6 8 <| o_iret Post
theorem s_T_serve_122 {G : oG} {Post : oP} : oS G m_T_serve Post 122 (k_T_serve_122 G Post) := by
  unfold k_T_serve_122
  refine so_aload_n d_T_serve_122 rfl ?_
  refine so_getf cl_6 (k := 8) (by decide) w_204 d_T_serve_123 ?_
  exact so_iret d_T_serve_126 rfl
def k_T_serve_127 (G : oG) (Post : oP) : oK := o_aload 0 <| o_iload 1 <| o_iload 3 <| o_iload 4 <| o_callV G 6 m_T_open 3 <| o_jmp G m_T_serve Post 135 []
theorem s_T_serve_127 {G : oG} {Post : oP} : oS G m_T_serve Post 127 (k_T_serve_127 G Post) := by
  unfold k_T_serve_127
  refine so_aload_n d_T_serve_127 rfl ?_
  refine so_iload_n d_T_serve_128 rfl ?_
  refine so_iload_n d_T_serve_129 rfl ?_
  refine so_iload d_T_serve_130 ?_
  refine so_callV cl_6 f_T_open w_277 w_1 w_275 (by decide) (by decide) d_T_serve_132 ?_
  exact so_jmp
def k_T_serve_135 (G : oG) (Post : oP) : oK := o_iret Post
theorem s_T_serve_135 {G : oG} {Post : oP} : oS G m_T_serve Post 135 (k_T_serve_135 G Post) := by
  unfold k_T_serve_135
  exact so_iret d_T_serve_135 rfl
def k_T_serve_136 (G : oG) (Post : oP) : oK := o_aload 0 <| o_iload 1 <| o_iload 3 <| o_callV G 6 m_T_close 2 <| o_jmp G m_T_serve Post 142 []
theorem s_T_serve_136 {G : oG} {Post : oP} : oS G m_T_serve Post 136 (k_T_serve_136 G Post) := by
  unfold k_T_serve_136
  refine so_aload_n d_T_serve_136 rfl ?_
  refine so_iload_n d_T_serve_137 rfl ?_
  refine so_iload_n d_T_serve_138 rfl ?_
  refine so_callV cl_6 f_T_close w_343 w_4 w_341 (by decide) (by decide) d_T_serve_139 ?_
  exact so_jmp
def k_T_serve_142 (G : oG) (Post : oP) : oK := o_iret Post
theorem s_T_serve_142 {G : oG} {Post : oP} : oS G m_T_serve Post 142 (k_T_serve_142 G Post) := by
  unfold k_T_serve_142
  exact so_iret d_T_serve_142 rfl
def k_T_serve_143 (G : oG) (Post : oP) : oK := o_aload 0 <| o_iload 1 <| o_iconst 1 <| o_iload 3 <| o_iload 4 <| o_iload 5 <| o_callV G 6 m_T_transfer 5 <| o_jmp G m_T_serve Post 154 []
theorem s_T_serve_143 {G : oG} {Post : oP} : oS G m_T_serve Post 143 (k_T_serve_143 G Post) := by
  unfold k_T_serve_143
  refine so_aload_n d_T_serve_143 rfl ?_
  refine so_iload_n d_T_serve_144 rfl ?_
  refine so_iconst d_T_serve_145 rfl ?_
  refine so_iload_n d_T_serve_146 rfl ?_
  refine so_iload d_T_serve_147 ?_
  refine so_iload d_T_serve_149 ?_
  refine so_callV cl_6 f_T_transfer w_356 w_5 w_354 (by decide) (by decide) d_T_serve_151 ?_
  exact so_jmp
def k_T_serve_154 (G : oG) (Post : oP) : oK := o_iret Post
theorem s_T_serve_154 {G : oG} {Post : oP} : oS G m_T_serve Post 154 (k_T_serve_154 G Post) := by
  unfold k_T_serve_154
  exact so_iret d_T_serve_154 rfl
def k_T_serve_155 (G : oG) (Post : oP) : oK := o_aload 0 <| o_iload 1 <| o_iconst 2 <| o_iload 3 <| o_iload 4 <| o_iload 5 <| o_callV G 6 m_T_transfer 5 <| o_jmp G m_T_serve Post 166 []
theorem s_T_serve_155 {G : oG} {Post : oP} : oS G m_T_serve Post 155 (k_T_serve_155 G Post) := by
  unfold k_T_serve_155
  refine so_aload_n d_T_serve_155 rfl ?_
  refine so_iload_n d_T_serve_156 rfl ?_
  refine so_iconst d_T_serve_157 rfl ?_
  refine so_iload_n d_T_serve_158 rfl ?_
  refine so_iload d_T_serve_159 ?_
  refine so_iload d_T_serve_161 ?_
  refine so_callV cl_6 f_T_transfer w_356 w_5 w_354 (by decide) (by decide) d_T_serve_163 ?_
  exact so_jmp
def k_T_serve_166 (G : oG) (Post : oP) : oK := o_iret Post
theorem s_T_serve_166 {G : oG} {Post : oP} : oS G m_T_serve Post 166 (k_T_serve_166 G Post) := by
  unfold k_T_serve_166
  exact so_iret d_T_serve_166 rfl
def k_T_serve_167 (G : oG) (Post : oP) : oK := o_aload 0 <| o_iload 1 <| o_iload 3 <| o_iload 4 <| o_callV G 6 m_T_seek 3 <| o_jmp G m_T_serve Post 175 []
theorem s_T_serve_167 {G : oG} {Post : oP} : oS G m_T_serve Post 167 (k_T_serve_167 G Post) := by
  unfold k_T_serve_167
  refine so_aload_n d_T_serve_167 rfl ?_
  refine so_iload_n d_T_serve_168 rfl ?_
  refine so_iload_n d_T_serve_169 rfl ?_
  refine so_iload d_T_serve_170 ?_
  refine so_callV cl_6 f_T_seek w_456 w_14 w_454 (by decide) (by decide) d_T_serve_172 ?_
  exact so_jmp
def k_T_serve_175 (G : oG) (Post : oP) : oK := o_iret Post
theorem s_T_serve_175 {G : oG} {Post : oP} : oS G m_T_serve Post 175 (k_T_serve_175 G Post) := by
  unfold k_T_serve_175
  exact so_iret d_T_serve_175 rfl
def k_T_serve_176 (G : oG) (Post : oP) : oK := o_aload 0 <| o_iload 1 <| o_iload 3 <| o_callV G 6 m_T_duplicate 2 <| o_jmp G m_T_serve Post 182 []
theorem s_T_serve_176 {G : oG} {Post : oP} : oS G m_T_serve Post 176 (k_T_serve_176 G Post) := by
  unfold k_T_serve_176
  refine so_aload_n d_T_serve_176 rfl ?_
  refine so_iload_n d_T_serve_177 rfl ?_
  refine so_iload_n d_T_serve_178 rfl ?_
  refine so_callV cl_6 f_T_duplicate w_460 w_15 w_458 (by decide) (by decide) d_T_serve_179 ?_
  exact so_jmp
def k_T_serve_182 (G : oG) (Post : oP) : oK := o_iret Post
theorem s_T_serve_182 {G : oG} {Post : oP} : oS G m_T_serve Post 182 (k_T_serve_182 G Post) := by
  unfold k_T_serve_182
  exact so_iret d_T_serve_182 rfl
def k_T_serve_183 (G : oG) (Post : oP) : oK := o_aload 0 <| o_iload 1 <| o_iload 3 <| o_callV G 6 m_T_unlink 2 <| o_jmp G m_T_serve Post 189 []
theorem s_T_serve_183 {G : oG} {Post : oP} : oS G m_T_serve Post 183 (k_T_serve_183 G Post) := by
  unfold k_T_serve_183
  refine so_aload_n d_T_serve_183 rfl ?_
  refine so_iload_n d_T_serve_184 rfl ?_
  refine so_iload_n d_T_serve_185 rfl ?_
  refine so_callV cl_6 f_T_unlink w_464 w_16 w_462 (by decide) (by decide) d_T_serve_186 ?_
  exact so_jmp
def k_T_serve_189 (G : oG) (Post : oP) : oK := o_iret Post
theorem s_T_serve_189 {G : oG} {Post : oP} : oS G m_T_serve Post 189 (k_T_serve_189 G Post) := by
  unfold k_T_serve_189
  exact so_iret d_T_serve_189 rfl
def k_T_serve_190 (G : oG) (Post : oP) : oK := o_aload 0 <| o_iload 1 <| o_iload 3 <| o_iload 4 <| o_callV G 6 m_T_link 3 <| o_jmp G m_T_serve Post 198 []
theorem s_T_serve_190 {G : oG} {Post : oP} : oS G m_T_serve Post 190 (k_T_serve_190 G Post) := by
  unfold k_T_serve_190
  refine so_aload_n d_T_serve_190 rfl ?_
  refine so_iload_n d_T_serve_191 rfl ?_
  refine so_iload_n d_T_serve_192 rfl ?_
  refine so_iload d_T_serve_193 ?_
  refine so_callV cl_6 f_T_link w_472 w_17 w_470 (by decide) (by decide) d_T_serve_195 ?_
  exact so_jmp
def k_T_serve_198 (G : oG) (Post : oP) : oK := o_iret Post
theorem s_T_serve_198 {G : oG} {Post : oP} : oS G m_T_serve Post 198 (k_T_serve_198 G Post) := by
  unfold k_T_serve_198
  exact so_iret d_T_serve_198 rfl
def k_T_serve_199 (G : oG) (Post : oP) : oK := o_aload 0 <| o_iload 1 <| o_iload 3 <| o_iload 4 <| o_callV G 6 m_T_stat 3 <| o_jmp G m_T_serve Post 207 []
theorem s_T_serve_199 {G : oG} {Post : oP} : oS G m_T_serve Post 199 (k_T_serve_199 G Post) := by
  unfold k_T_serve_199
  refine so_aload_n d_T_serve_199 rfl ?_
  refine so_iload_n d_T_serve_200 rfl ?_
  refine so_iload_n d_T_serve_201 rfl ?_
  refine so_iload d_T_serve_202 ?_
  refine so_callV cl_6 f_T_stat w_476 w_18 w_474 (by decide) (by decide) d_T_serve_204 ?_
  exact so_jmp
def k_T_serve_207 (G : oG) (Post : oP) : oK := o_iret Post
theorem s_T_serve_207 {G : oG} {Post : oP} : oS G m_T_serve Post 207 (k_T_serve_207 G Post) := by
  unfold k_T_serve_207
  exact so_iret d_T_serve_207 rfl
def k_T_serve_208 (G : oG) (Post : oP) : oK := o_aload 0 <| o_iload 1 <| o_iload 3 <| o_callV G 6 m_T_makePipe 2 <| o_jmp G m_T_serve Post 214 []
theorem s_T_serve_208 {G : oG} {Post : oP} : oS G m_T_serve Post 208 (k_T_serve_208 G Post) := by
  unfold k_T_serve_208
  refine so_aload_n d_T_serve_208 rfl ?_
  refine so_iload_n d_T_serve_209 rfl ?_
  refine so_iload_n d_T_serve_210 rfl ?_
  refine so_callV cl_6 f_T_makePipe w_480 w_19 w_478 (by decide) (by decide) d_T_serve_211 ?_
  exact so_jmp
def k_T_serve_214 (G : oG) (Post : oP) : oK := o_iret Post
theorem s_T_serve_214 {G : oG} {Post : oP} : oS G m_T_serve Post 214 (k_T_serve_214 G Post) := by
  unfold k_T_serve_214
  exact so_iret d_T_serve_214 rfl
def k_T_serve_215 (G : oG) (Post : oP) : oK := o_aload 0 <| o_iload 1 <| o_iload 3 <| o_iload 4 <| o_callV G 6 m_T_list 3 <| o_jmp G m_T_serve Post 223 []
theorem s_T_serve_215 {G : oG} {Post : oP} : oS G m_T_serve Post 215 (k_T_serve_215 G Post) := by
  unfold k_T_serve_215
  refine so_aload_n d_T_serve_215 rfl ?_
  refine so_iload_n d_T_serve_216 rfl ?_
  refine so_iload_n d_T_serve_217 rfl ?_
  refine so_iload d_T_serve_218 ?_
  refine so_callV cl_6 f_T_list w_492 w_22 w_490 (by decide) (by decide) d_T_serve_220 ?_
  exact so_jmp
def k_T_serve_223 (G : oG) (Post : oP) : oK := o_iret Post
theorem s_T_serve_223 {G : oG} {Post : oP} : oS G m_T_serve Post 223 (k_T_serve_223 G Post) := by
  unfold k_T_serve_223
  exact so_iret d_T_serve_223 rfl
def k_T_serve_224 (G : oG) (Post : oP) : oK := o_aload 0 <| o_iload 1 <| o_iload 3 <| o_iload 4 <| o_iload 5 <| o_callV G 6 m_T_copy 4 <| o_jmp G m_T_serve Post 234 []
theorem s_T_serve_224 {G : oG} {Post : oP} : oS G m_T_serve Post 224 (k_T_serve_224 G Post) := by
  unfold k_T_serve_224
  refine so_aload_n d_T_serve_224 rfl ?_
  refine so_iload_n d_T_serve_225 rfl ?_
  refine so_iload_n d_T_serve_226 rfl ?_
  refine so_iload d_T_serve_227 ?_
  refine so_iload d_T_serve_229 ?_
  refine so_callV cl_6 f_T_copy w_503 w_23 w_501 (by decide) (by decide) d_T_serve_231 ?_
  exact so_jmp
def k_T_serve_234 (G : oG) (Post : oP) : oK := o_iret Post
theorem s_T_serve_234 {G : oG} {Post : oP} : oS G m_T_serve Post 234 (k_T_serve_234 G Post) := by
  unfold k_T_serve_234
  exact so_iret d_T_serve_234 rfl
def k_T_serve_235 (G : oG) (Post : oP) : oK := o_aload 0 <| o_iload 1 <| o_iload 3 <| o_iload 4 <| o_callV G 6 m_T_protect 3 <| o_jmp G m_T_serve Post 243 []
theorem s_T_serve_235 {G : oG} {Post : oP} : oS G m_T_serve Post 235 (k_T_serve_235 G Post) := by
  unfold k_T_serve_235
  refine so_aload_n d_T_serve_235 rfl ?_
  refine so_iload_n d_T_serve_236 rfl ?_
  refine so_iload_n d_T_serve_237 rfl ?_
  refine so_iload d_T_serve_238 ?_
  refine so_callV cl_6 f_T_protect w_507 w_24 w_505 (by decide) (by decide) d_T_serve_240 ?_
  exact so_jmp
def k_T_serve_243 (G : oG) (Post : oP) : oK := o_iret Post
theorem s_T_serve_243 {G : oG} {Post : oP} : oS G m_T_serve Post 243 (k_T_serve_243 G Post) := by
  unfold k_T_serve_243
  exact so_iret d_T_serve_243 rfl
def k_T_serve_244 (G : oG) (Post : oP) : oK := o_aload 0 <| o_iload 1 <| o_iconst 1 <| o_iload 3 <| o_iload 4 <| o_iload 5 <| o_callV G 6 m_T_transferRanges 5 <| o_jmp G m_T_serve Post 255 []
theorem s_T_serve_244 {G : oG} {Post : oP} : oS G m_T_serve Post 244 (k_T_serve_244 G Post) := by
  unfold k_T_serve_244
  refine so_aload_n d_T_serve_244 rfl ?_
  refine so_iload_n d_T_serve_245 rfl ?_
  refine so_iconst d_T_serve_246 rfl ?_
  refine so_iload_n d_T_serve_247 rfl ?_
  refine so_iload d_T_serve_248 ?_
  refine so_iload d_T_serve_250 ?_
  refine so_callV cl_6 f_T_transferRanges w_511 w_25 w_509 (by decide) (by decide) d_T_serve_252 ?_
  exact so_jmp
def k_T_serve_255 (G : oG) (Post : oP) : oK := o_iret Post
theorem s_T_serve_255 {G : oG} {Post : oP} : oS G m_T_serve Post 255 (k_T_serve_255 G Post) := by
  unfold k_T_serve_255
  exact so_iret d_T_serve_255 rfl
def k_T_serve_256 (G : oG) (Post : oP) : oK := o_aload 0 <| o_iload 1 <| o_iconst 2 <| o_iload 3 <| o_iload 4 <| o_iload 5 <| o_callV G 6 m_T_transferRanges 5 <| o_jmp G m_T_serve Post 267 []
theorem s_T_serve_256 {G : oG} {Post : oP} : oS G m_T_serve Post 256 (k_T_serve_256 G Post) := by
  unfold k_T_serve_256
  refine so_aload_n d_T_serve_256 rfl ?_
  refine so_iload_n d_T_serve_257 rfl ?_
  refine so_iconst d_T_serve_258 rfl ?_
  refine so_iload_n d_T_serve_259 rfl ?_
  refine so_iload d_T_serve_260 ?_
  refine so_iload d_T_serve_262 ?_
  refine so_callV cl_6 f_T_transferRanges w_511 w_25 w_509 (by decide) (by decide) d_T_serve_264 ?_
  exact so_jmp
def k_T_serve_267 (G : oG) (Post : oP) : oK := o_iret Post
theorem s_T_serve_267 {G : oG} {Post : oP} : oS G m_T_serve Post 267 (k_T_serve_267 G Post) := by
  unfold k_T_serve_267
  exact so_iret d_T_serve_267 rfl
def k_T_serve_268 (G : oG) (Post : oP) : oK := o_aload 0 <| o_iload 1 <| o_iload 3 <| o_iload 4 <| o_callV G 6 m_T_rename 3 <| o_jmp G m_T_serve Post 276 []
theorem s_T_serve_268 {G : oG} {Post : oP} : oS G m_T_serve Post 268 (k_T_serve_268 G Post) := by
  unfold k_T_serve_268
  refine so_aload_n d_T_serve_268 rfl ?_
  refine so_iload_n d_T_serve_269 rfl ?_
  refine so_iload_n d_T_serve_270 rfl ?_
  refine so_iload d_T_serve_271 ?_
  refine so_callV cl_6 f_T_rename w_521 w_27 w_519 (by decide) (by decide) d_T_serve_273 ?_
  exact so_jmp
def k_T_serve_276 (G : oG) (Post : oP) : oK := o_iret Post
theorem s_T_serve_276 {G : oG} {Post : oP} : oS G m_T_serve Post 276 (k_T_serve_276 G Post) := by
  unfold k_T_serve_276
  exact so_iret d_T_serve_276 rfl
def k_T_serve_277 (G : oG) (Post : oP) : oK := o_iconst (-38) <| o_iret Post
theorem s_T_serve_277 {G : oG} {Post : oP} : oS G m_T_serve Post 277 (k_T_serve_277 G Post) := by
  unfold k_T_serve_277
  refine so_bipush d_T_serve_277 rfl ?_
  exact so_iret d_T_serve_279 rfl
