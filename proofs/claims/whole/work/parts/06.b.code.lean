/-! code in blocks, by program -/
theorem d_M_init_0 : decode prog_2_method_1_code 0 = .ok (.aload_n 0, 1) := by decide +kernel
theorem d_M_init_1 : decode prog_2_method_1_code 1 = .ok (.invokespecial 3, 3) := by decide +kernel
theorem d_M_init_4 : decode prog_2_method_1_code 4 = .ok (.aload_n 0, 1) := by decide +kernel
theorem d_M_init_5 : decode prog_2_method_1_code 5 = .ok (.sipush 320, 3) := by decide +kernel
theorem d_M_init_8 : decode prog_2_method_1_code 8 = .ok (.newarray .int, 2) := by decide +kernel
theorem d_M_init_10 : decode prog_2_method_1_code 10 = .ok (.putfield 9, 3) := by decide +kernel
theorem d_M_init_13 : decode prog_2_method_1_code 13 = .ok (.aload_n 0, 1) := by decide +kernel
theorem d_M_init_14 : decode prog_2_method_1_code 14 = .ok (.bipush 48, 2) := by decide +kernel
theorem d_M_init_16 : decode prog_2_method_1_code 16 = .ok (.newarray .int, 2) := by decide +kernel
theorem d_M_init_18 : decode prog_2_method_1_code 18 = .ok (.putfield 15, 3) := by decide +kernel
theorem d_M_init_21 : decode prog_2_method_1_code 21 = .ok (.aload_n 0, 1) := by decide +kernel
theorem d_M_init_22 : decode prog_2_method_1_code 22 = .ok (.getfield 15, 3) := by decide +kernel
theorem d_M_init_25 : decode prog_2_method_1_code 25 = .ok (.iconst (-1), 1) := by decide +kernel
theorem d_M_init_26 : decode prog_2_method_1_code 26 = .ok (.invokestatic 18, 3) := by decide +kernel
theorem d_M_init_29 : decode prog_2_method_1_code 29 = .ok (.return_, 1) := by decide +kernel
def k_M_init_0 (G : oG) (Post : oP) : oK := o_aload 0 <| o_objInit <| o_aload 0 <| o_iconst 320 <| o_newa 0 (.inl (fun _ => 0)) <| o_putfR 0 0 <| o_aload 0 <| o_iconst 48 <| o_newa 0 (.inl (fun _ => 0)) <| o_putfR 0 1 <| o_aload 0 <| o_getf 0 1 <| o_iconst (-1) <| o_callS G m_A_fill 2 <| o_jmp G m_M_init Post 29 []
theorem s_M_init_0 {G : oG} {Post : oP} : oS G m_M_init Post 0 (k_M_init_0 G Post) := by
  unfold k_M_init_0
  refine so_aload_n d_M_init_0 rfl ?_
  refine so_objInit w_92 w_85 w_objcode (by decide) (by decide) d_M_init_1 ?_
  refine so_aload_n d_M_init_4 rfl ?_
  refine so_sipush d_M_init_5 rfl ?_
  refine so_newa (ty := .int) rfl w_104 (t := 0) rfl (fun _ q => by cases q) (by decide) rfl (fun _ _ => rfl) d_M_init_8 ?_
  refine so_putfRF cl_0 (k := 0) (by decide) (Or.inr ⟨_, rfl⟩) rfl rfl rfl w_96 d_M_init_10 ?_
  refine so_aload_n d_M_init_13 rfl ?_
  refine so_bipush d_M_init_14 rfl ?_
  refine so_newa (ty := .int) rfl w_104 (t := 0) rfl (fun _ q => by cases q) (by decide) rfl (fun _ _ => rfl) d_M_init_16 ?_
  refine so_putfRF cl_0 (k := 1) (by decide) (Or.inr ⟨_, rfl⟩) rfl rfl rfl w_98 d_M_init_18 ?_
  refine so_aload_n d_M_init_21 rfl ?_
  refine so_getf cl_0 (k := 1) (by decide) w_98 d_M_init_22 ?_
  refine so_iconst d_M_init_25 rfl ?_
  refine so_callS f_A_fill w_94 w_93 (by decide) (by decide) d_M_init_26 ?_
  exact so_jmp
def k_M_init_29 (G : oG) (Post : oP) : oK := o_vret Post
theorem s_M_init_29 {G : oG} {Post : oP} : oS G m_M_init Post 29 (k_M_init_29 G Post) := by
  unfold k_M_init_29
  exact so_vret d_M_init_29 rfl
theorem d_M_setEntry_0 : decode prog_2_method_3_code 0 = .ok (.aload_n 0, 1) := by decide +kernel
theorem d_M_setEntry_1 : decode prog_2_method_3_code 1 = .ok (.getfield 15, 3) := by decide +kernel
theorem d_M_setEntry_4 : decode prog_2_method_3_code 4 = .ok (.iload_n 1, 1) := by decide +kernel
theorem d_M_setEntry_5 : decode prog_2_method_3_code 5 = .ok (.bipush 16, 2) := by decide +kernel
theorem d_M_setEntry_7 : decode prog_2_method_3_code 7 = .ok (.imul, 1) := by decide +kernel
theorem d_M_setEntry_8 : decode prog_2_method_3_code 8 = .ok (.iload_n 2, 1) := by decide +kernel
theorem d_M_setEntry_9 : decode prog_2_method_3_code 9 = .ok (.iadd, 1) := by decide +kernel
theorem d_M_setEntry_10 : decode prog_2_method_3_code 10 = .ok (.iload_n 3, 1) := by decide +kernel
theorem d_M_setEntry_11 : decode prog_2_method_3_code 11 = .ok (.iastore, 1) := by decide +kernel
theorem d_M_setEntry_12 : decode prog_2_method_3_code 12 = .ok (.return_, 1) := by decide +kernel
def k_M_setEntry_0 (G : oG) (Post : oP) : oK := o_aload 0 <| o_getf 0 1 <| o_iload 1 <| o_iconst 16 <| o_imul <| o_iload 2 <| o_iadd <| o_iload 3 <| o_iast <| o_vret Post
theorem s_M_setEntry_0 {G : oG} {Post : oP} : oS G m_M_setEntry Post 0 (k_M_setEntry_0 G Post) := by
  unfold k_M_setEntry_0
  refine so_aload_n d_M_setEntry_0 rfl ?_
  refine so_getf cl_0 (k := 1) (by decide) w_98 d_M_setEntry_1 ?_
  refine so_iload_n d_M_setEntry_4 rfl ?_
  refine so_bipush d_M_setEntry_5 rfl ?_
  refine so_imul d_M_setEntry_7 ?_
  refine so_iload_n d_M_setEntry_8 rfl ?_
  refine so_iadd d_M_setEntry_9 ?_
  refine so_iload_n d_M_setEntry_10 rfl ?_
  refine so_iast d_M_setEntry_11 ?_
  exact so_vret d_M_setEntry_12 rfl
theorem d_M_entry_0 : decode prog_2_method_2_code 0 = .ok (.aload_n 0, 1) := by decide +kernel
theorem d_M_entry_1 : decode prog_2_method_2_code 1 = .ok (.getfield 15, 3) := by decide +kernel
theorem d_M_entry_4 : decode prog_2_method_2_code 4 = .ok (.iload_n 1, 1) := by decide +kernel
theorem d_M_entry_5 : decode prog_2_method_2_code 5 = .ok (.bipush 16, 2) := by decide +kernel
theorem d_M_entry_7 : decode prog_2_method_2_code 7 = .ok (.imul, 1) := by decide +kernel
theorem d_M_entry_8 : decode prog_2_method_2_code 8 = .ok (.iload_n 2, 1) := by decide +kernel
theorem d_M_entry_9 : decode prog_2_method_2_code 9 = .ok (.iadd, 1) := by decide +kernel
theorem d_M_entry_10 : decode prog_2_method_2_code 10 = .ok (.iaload, 1) := by decide +kernel
theorem d_M_entry_11 : decode prog_2_method_2_code 11 = .ok (.ireturn, 1) := by decide +kernel
def k_M_entry_0 (G : oG) (Post : oP) : oK := o_aload 0 <| o_getf 0 1 <| o_iload 1 <| o_iconst 16 <| o_imul <| o_iload 2 <| o_iadd <| o_iald G <| o_iret Post
theorem s_M_entry_0 {G : oG} {Post : oP} : oS G m_M_entry Post 0 (k_M_entry_0 G Post) := by
  unfold k_M_entry_0
  refine so_aload_n d_M_entry_0 rfl ?_
  refine so_getf cl_0 (k := 1) (by decide) w_98 d_M_entry_1 ?_
  refine so_iload_n d_M_entry_4 rfl ?_
  refine so_bipush d_M_entry_5 rfl ?_
  refine so_imul d_M_entry_7 ?_
  refine so_iload_n d_M_entry_8 rfl ?_
  refine so_iadd d_M_entry_9 ?_
  refine so_iald d_M_entry_10 ?_
  exact so_iret d_M_entry_11 rfl
theorem d_M_allows_0 : decode prog_2_method_4_code 0 = .ok (.iload_n 3, 1) := by decide +kernel
theorem d_M_allows_1 : decode prog_2_method_4_code 1 = .ok (.ifCond .ne 5, 3) := by decide +kernel
theorem d_M_allows_4 : decode prog_2_method_4_code 4 = .ok (.iconst 1, 1) := by decide +kernel
theorem d_M_allows_5 : decode prog_2_method_4_code 5 = .ok (.ireturn, 1) := by decide +kernel
theorem d_M_allows_6 : decode prog_2_method_4_code 6 = .ok (.iload_n 3, 1) := by decide +kernel
theorem d_M_allows_7 : decode prog_2_method_4_code 7 = .ok (.ifCond .lt 23, 3) := by decide +kernel
theorem d_M_allows_10 : decode prog_2_method_4_code 10 = .ok (.iload_n 3, 1) := by decide +kernel
theorem d_M_allows_11 : decode prog_2_method_4_code 11 = .ok (.sipush 256, 3) := by decide +kernel
theorem d_M_allows_14 : decode prog_2_method_4_code 14 = .ok (.if_icmp .gt 16, 3) := by decide +kernel
theorem d_M_allows_17 : decode prog_2_method_4_code 17 = .ok (.iload_n 2, 1) := by decide +kernel
theorem d_M_allows_18 : decode prog_2_method_4_code 18 = .ok (.ifCond .lt 12, 3) := by decide +kernel
theorem d_M_allows_21 : decode prog_2_method_4_code 21 = .ok (.iload_n 2, 1) := by decide +kernel
theorem d_M_allows_22 : decode prog_2_method_4_code 22 = .ok (.sipush 256, 3) := by decide +kernel
theorem d_M_allows_25 : decode prog_2_method_4_code 25 = .ok (.iload_n 3, 1) := by decide +kernel
theorem d_M_allows_26 : decode prog_2_method_4_code 26 = .ok (.isub, 1) := by decide +kernel
theorem d_M_allows_27 : decode prog_2_method_4_code 27 = .ok (.if_icmp .le 5, 3) := by decide +kernel
theorem d_M_allows_30 : decode prog_2_method_4_code 30 = .ok (.iconst 0, 1) := by decide +kernel
theorem d_M_allows_31 : decode prog_2_method_4_code 31 = .ok (.ireturn, 1) := by decide +kernel
theorem d_M_allows_32 : decode prog_2_method_4_code 32 = .ok (.iload_n 2, 1) := by decide +kernel
theorem d_M_allows_33 : decode prog_2_method_4_code 33 = .ok (.iload_n 3, 1) := by decide +kernel
theorem d_M_allows_34 : decode prog_2_method_4_code 34 = .ok (.iadd, 1) := by decide +kernel
theorem d_M_allows_35 : decode prog_2_method_4_code 35 = .ok (.iconst 1, 1) := by decide +kernel
theorem d_M_allows_36 : decode prog_2_method_4_code 36 = .ok (.isub, 1) := by decide +kernel
theorem d_M_allows_37 : decode prog_2_method_4_code 37 = .ok (.bipush 16, 2) := by decide +kernel
theorem d_M_allows_39 : decode prog_2_method_4_code 39 = .ok (.idiv, 1) := by decide +kernel
theorem d_M_allows_40 : decode prog_2_method_4_code 40 = .ok (.istore 5, 2) := by decide +kernel
theorem d_M_allows_42 : decode prog_2_method_4_code 42 = .ok (.iload 4, 2) := by decide +kernel
theorem d_M_allows_44 : decode prog_2_method_4_code 44 = .ok (.iconst 4, 1) := by decide +kernel
theorem d_M_allows_45 : decode prog_2_method_4_code 45 = .ok (.ior, 1) := by decide +kernel
theorem d_M_allows_46 : decode prog_2_method_4_code 46 = .ok (.istore 6, 2) := by decide +kernel
theorem d_M_allows_48 : decode prog_2_method_4_code 48 = .ok (.iload_n 2, 1) := by decide +kernel
theorem d_M_allows_49 : decode prog_2_method_4_code 49 = .ok (.bipush 16, 2) := by decide +kernel
theorem d_M_allows_51 : decode prog_2_method_4_code 51 = .ok (.idiv, 1) := by decide +kernel
theorem d_M_allows_52 : decode prog_2_method_4_code 52 = .ok (.istore 7, 2) := by decide +kernel
theorem d_M_allows_54 : decode prog_2_method_4_code 54 = .ok (.iload 7, 2) := by decide +kernel
theorem d_M_allows_56 : decode prog_2_method_4_code 56 = .ok (.iload 5, 2) := by decide +kernel
theorem d_M_allows_58 : decode prog_2_method_4_code 58 = .ok (.if_icmp .gt 36, 3) := by decide +kernel
theorem d_M_allows_61 : decode prog_2_method_4_code 61 = .ok (.aload_n 0, 1) := by decide +kernel
theorem d_M_allows_62 : decode prog_2_method_4_code 62 = .ok (.iload_n 1, 1) := by decide +kernel
theorem d_M_allows_63 : decode prog_2_method_4_code 63 = .ok (.iload 7, 2) := by decide +kernel
theorem d_M_allows_65 : decode prog_2_method_4_code 65 = .ok (.invokevirtual 24, 3) := by decide +kernel
theorem d_M_allows_68 : decode prog_2_method_4_code 68 = .ok (.istore 8, 2) := by decide +kernel
theorem d_M_allows_70 : decode prog_2_method_4_code 70 = .ok (.iload 8, 2) := by decide +kernel
theorem d_M_allows_72 : decode prog_2_method_4_code 72 = .ok (.iconst (-1), 1) := by decide +kernel
theorem d_M_allows_73 : decode prog_2_method_4_code 73 = .ok (.if_icmp .eq 13, 3) := by decide +kernel
theorem d_M_allows_76 : decode prog_2_method_4_code 76 = .ok (.iload 8, 2) := by decide +kernel
theorem d_M_allows_78 : decode prog_2_method_4_code 78 = .ok (.iload 6, 2) := by decide +kernel
theorem d_M_allows_80 : decode prog_2_method_4_code 80 = .ok (.iand, 1) := by decide +kernel
theorem d_M_allows_81 : decode prog_2_method_4_code 81 = .ok (.iload 6, 2) := by decide +kernel
theorem d_M_allows_83 : decode prog_2_method_4_code 83 = .ok (.if_icmp .eq 5, 3) := by decide +kernel
theorem d_M_allows_86 : decode prog_2_method_4_code 86 = .ok (.iconst 0, 1) := by decide +kernel
theorem d_M_allows_87 : decode prog_2_method_4_code 87 = .ok (.ireturn, 1) := by decide +kernel
theorem d_M_allows_88 : decode prog_2_method_4_code 88 = .ok (.iinc 7 1, 3) := by decide +kernel
theorem d_M_allows_91 : decode prog_2_method_4_code 91 = .ok (.goto (-37), 3) := by decide +kernel
theorem d_M_allows_94 : decode prog_2_method_4_code 94 = .ok (.iconst 1, 1) := by decide +kernel
theorem d_M_allows_95 : decode prog_2_method_4_code 95 = .ok (.ireturn, 1) := by decide +kernel
def k_M_allows_0 (G : oG) (Post : oP) : oK := o_iload 3 <| o_ifne (o_jmp G m_M_allows Post 6 [0, 1, 2, 3, 4]) (o_iconst 1 <| o_zret Post)
theorem s_M_allows_0 {G : oG} {Post : oP} : oS G m_M_allows Post 0 (k_M_allows_0 G Post) := by
  unfold k_M_allows_0
  refine so_iload_n d_M_allows_0 rfl ?_
  refine so_ifne d_M_allows_1 (tgt := 6) (by decide) ?_ ?_
  · exact so_jmp
  · refine so_iconst d_M_allows_4 rfl ?_
    exact so_zret d_M_allows_5 rfl
def k_M_allows_6 (G : oG) (Post : oP) : oK := o_iload 3 <| o_iflt (o_iconst 0 <| o_zret Post) (o_iload 3 <| o_iconst 256 <| o_icmpgt (o_iconst 0 <| o_zret Post) (o_iload 2 <| o_iflt (o_iconst 0 <| o_zret Post) (o_iload 2 <| o_iconst 256 <| o_iload 3 <| o_isub <| o_icmple (o_jmp G m_M_allows Post 32 [0, 1, 2, 3, 4]) (o_iconst 0 <| o_zret Post))))
theorem s_M_allows_6 {G : oG} {Post : oP} : oS G m_M_allows Post 6 (k_M_allows_6 G Post) := by
  unfold k_M_allows_6
  refine so_iload_n d_M_allows_6 rfl ?_
  refine so_iflt d_M_allows_7 (tgt := 30) (by decide) ?_ ?_
  · refine so_iconst d_M_allows_30 rfl ?_
    exact so_zret d_M_allows_31 rfl
  · refine so_iload_n d_M_allows_10 rfl ?_
    refine so_sipush d_M_allows_11 rfl ?_
    refine so_icmpgt d_M_allows_14 (tgt := 30) (by decide) ?_ ?_
    · refine so_iconst d_M_allows_30 rfl ?_
      exact so_zret d_M_allows_31 rfl
    · refine so_iload_n d_M_allows_17 rfl ?_
      refine so_iflt d_M_allows_18 (tgt := 30) (by decide) ?_ ?_
      · refine so_iconst d_M_allows_30 rfl ?_
        exact so_zret d_M_allows_31 rfl
      · refine so_iload_n d_M_allows_21 rfl ?_
        refine so_sipush d_M_allows_22 rfl ?_
        refine so_iload_n d_M_allows_25 rfl ?_
        refine so_isub d_M_allows_26 ?_
        refine so_icmple d_M_allows_27 (tgt := 32) (by decide) ?_ ?_
        · exact so_jmp
        · refine so_iconst d_M_allows_30 rfl ?_
          exact so_zret d_M_allows_31 rfl
def k_M_allows_32 (G : oG) (Post : oP) : oK := o_iload 2 <| o_iload 3 <| o_iadd <| o_iconst 1 <| o_isub <| o_iconst 16 <| o_idiv <| o_istore 5 <| o_iload 4 <| o_iconst 4 <| o_ior <| o_istore 6 <| o_iload 2 <| o_iconst 16 <| o_idiv <| o_istore 7 <| o_jmp G m_M_allows Post 54 [0, 1, 5, 6, 7]
theorem s_M_allows_32 {G : oG} {Post : oP} : oS G m_M_allows Post 32 (k_M_allows_32 G Post) := by
  unfold k_M_allows_32
  refine so_iload_n d_M_allows_32 rfl ?_
  refine so_iload_n d_M_allows_33 rfl ?_
  refine so_iadd d_M_allows_34 ?_
  refine so_iconst d_M_allows_35 rfl ?_
  refine so_isub d_M_allows_36 ?_
  refine so_bipush d_M_allows_37 rfl ?_
  refine so_idiv d_M_allows_39 ?_
  refine so_istore d_M_allows_40 (by decide) ?_
  refine so_iload d_M_allows_42 ?_
  refine so_iconst d_M_allows_44 rfl ?_
  refine so_ior d_M_allows_45 ?_
  refine so_istore d_M_allows_46 (by decide) ?_
  refine so_iload_n d_M_allows_48 rfl ?_
  refine so_bipush d_M_allows_49 rfl ?_
  refine so_idiv d_M_allows_51 ?_
  refine so_istore d_M_allows_52 (by decide) ?_
  exact so_jmp
def k_M_allows_54 (G : oG) (Post : oP) : oK := o_iload 7 <| o_iload 5 <| o_icmpgt (o_iconst 1 <| o_zret Post) (o_aload 0 <| o_iload 1 <| o_iload 7 <| o_callV G 0 m_M_entry 2 <| o_jmp G m_M_allows Post 68 [0, 1, 5, 6, 7])
theorem s_M_allows_54 {G : oG} {Post : oP} : oS G m_M_allows Post 54 (k_M_allows_54 G Post) := by
  unfold k_M_allows_54
  refine so_iload d_M_allows_54 ?_
  refine so_iload d_M_allows_56 ?_
  refine so_icmpgt d_M_allows_58 (tgt := 94) (by decide) ?_ ?_
  · refine so_iconst d_M_allows_94 rfl ?_
    exact so_zret d_M_allows_95 rfl
  · refine so_aload_n d_M_allows_61 rfl ?_
    refine so_iload_n d_M_allows_62 rfl ?_
    refine so_iload d_M_allows_63 ?_
    refine so_callV cl_0 f_M_entry w_247 w_248 w_290 (by decide) (by decide) d_M_allows_65 ?_
    exact so_jmp
def k_M_allows_68 (G : oG) (Post : oP) : oK := o_istore 8 <| o_iload 8 <| o_iconst (-1) <| o_icmpeq (o_iconst 0 <| o_zret Post) (o_iload 8 <| o_iload 6 <| o_iand <| o_iload 6 <| o_icmpeq (o_iinc 7 1 <| o_jmp G m_M_allows Post 54 [0, 1, 5, 6, 7]) (o_iconst 0 <| o_zret Post))
theorem s_M_allows_68 {G : oG} {Post : oP} : oS G m_M_allows Post 68 (k_M_allows_68 G Post) := by
  unfold k_M_allows_68
  refine so_istore d_M_allows_68 (by decide) ?_
  refine so_iload d_M_allows_70 ?_
  refine so_iconst d_M_allows_72 rfl ?_
  refine so_icmpeq d_M_allows_73 (tgt := 86) (by decide) ?_ ?_
  · refine so_iconst d_M_allows_86 rfl ?_
    exact so_zret d_M_allows_87 rfl
  · refine so_iload d_M_allows_76 ?_
    refine so_iload d_M_allows_78 ?_
    refine so_iand d_M_allows_80 ?_
    refine so_iload d_M_allows_81 ?_
    refine so_icmpeq d_M_allows_83 (tgt := 88) (by decide) ?_ ?_
    · refine so_iinc d_M_allows_88 rfl (by decide) ?_
      refine so_goto d_M_allows_91 (tgt := 54) (by decide) ?_
      exact so_jmp
    · refine so_iconst d_M_allows_86 rfl ?_
      exact so_zret d_M_allows_87 rfl
theorem d_M_load_0 : decode prog_2_method_5_code 0 = .ok (.aload_n 0, 1) := by decide +kernel
theorem d_M_load_1 : decode prog_2_method_5_code 1 = .ok (.getfield 15, 3) := by decide +kernel
theorem d_M_load_4 : decode prog_2_method_5_code 4 = .ok (.iload_n 1, 1) := by decide +kernel
theorem d_M_load_5 : decode prog_2_method_5_code 5 = .ok (.bipush 16, 2) := by decide +kernel
theorem d_M_load_7 : decode prog_2_method_5_code 7 = .ok (.imul, 1) := by decide +kernel
theorem d_M_load_8 : decode prog_2_method_5_code 8 = .ok (.iload_n 2, 1) := by decide +kernel
theorem d_M_load_9 : decode prog_2_method_5_code 9 = .ok (.bipush 16, 2) := by decide +kernel
theorem d_M_load_11 : decode prog_2_method_5_code 11 = .ok (.idiv, 1) := by decide +kernel
theorem d_M_load_12 : decode prog_2_method_5_code 12 = .ok (.iadd, 1) := by decide +kernel
theorem d_M_load_13 : decode prog_2_method_5_code 13 = .ok (.iaload, 1) := by decide +kernel
theorem d_M_load_14 : decode prog_2_method_5_code 14 = .ok (.bipush 8, 2) := by decide +kernel
theorem d_M_load_16 : decode prog_2_method_5_code 16 = .ok (.idiv, 1) := by decide +kernel
theorem d_M_load_17 : decode prog_2_method_5_code 17 = .ok (.istore_n 3, 1) := by decide +kernel
theorem d_M_load_18 : decode prog_2_method_5_code 18 = .ok (.aload_n 0, 1) := by decide +kernel
theorem d_M_load_19 : decode prog_2_method_5_code 19 = .ok (.getfield 9, 3) := by decide +kernel
theorem d_M_load_22 : decode prog_2_method_5_code 22 = .ok (.iload_n 3, 1) := by decide +kernel
theorem d_M_load_23 : decode prog_2_method_5_code 23 = .ok (.bipush 16, 2) := by decide +kernel
theorem d_M_load_25 : decode prog_2_method_5_code 25 = .ok (.imul, 1) := by decide +kernel
theorem d_M_load_26 : decode prog_2_method_5_code 26 = .ok (.iload_n 2, 1) := by decide +kernel
theorem d_M_load_27 : decode prog_2_method_5_code 27 = .ok (.bipush 16, 2) := by decide +kernel
theorem d_M_load_29 : decode prog_2_method_5_code 29 = .ok (.irem, 1) := by decide +kernel
theorem d_M_load_30 : decode prog_2_method_5_code 30 = .ok (.iadd, 1) := by decide +kernel
theorem d_M_load_31 : decode prog_2_method_5_code 31 = .ok (.iaload, 1) := by decide +kernel
theorem d_M_load_32 : decode prog_2_method_5_code 32 = .ok (.ireturn, 1) := by decide +kernel
def k_M_load_0 (G : oG) (Post : oP) : oK := o_aload 0 <| o_getf 0 1 <| o_iload 1 <| o_iconst 16 <| o_imul <| o_iload 2 <| o_iconst 16 <| o_idiv <| o_iadd <| o_iald G <| o_iconst 8 <| o_idiv <| o_istore 3 <| o_aload 0 <| o_getf 0 0 <| o_iload 3 <| o_iconst 16 <| o_imul <| o_iload 2 <| o_iconst 16 <| o_irem <| o_iadd <| o_iald G <| o_iret Post
theorem s_M_load_0 {G : oG} {Post : oP} : oS G m_M_load Post 0 (k_M_load_0 G Post) := by
  unfold k_M_load_0
  refine so_aload_n d_M_load_0 rfl ?_
  refine so_getf cl_0 (k := 1) (by decide) w_98 d_M_load_1 ?_
  refine so_iload_n d_M_load_4 rfl ?_
  refine so_bipush d_M_load_5 rfl ?_
  refine so_imul d_M_load_7 ?_
  refine so_iload_n d_M_load_8 rfl ?_
  refine so_bipush d_M_load_9 rfl ?_
  refine so_idiv d_M_load_11 ?_
  refine so_iadd d_M_load_12 ?_
  refine so_iald d_M_load_13 ?_
  refine so_bipush d_M_load_14 rfl ?_
  refine so_idiv d_M_load_16 ?_
  refine so_istore_n d_M_load_17 rfl (by decide) ?_
  refine so_aload_n d_M_load_18 rfl ?_
  refine so_getf cl_0 (k := 0) (by decide) w_96 d_M_load_19 ?_
  refine so_iload_n d_M_load_22 rfl ?_
  refine so_bipush d_M_load_23 rfl ?_
  refine so_imul d_M_load_25 ?_
  refine so_iload_n d_M_load_26 rfl ?_
  refine so_bipush d_M_load_27 rfl ?_
  refine so_irem d_M_load_29 ?_
  refine so_iadd d_M_load_30 ?_
  refine so_iald d_M_load_31 ?_
  exact so_iret d_M_load_32 rfl
theorem d_M_textAt_0 : decode prog_2_method_7_code 0 = .ok (.lconst 0, 1) := by decide +kernel
theorem d_M_textAt_1 : decode prog_2_method_7_code 1 = .ok (.lstore_n 3, 1) := by decide +kernel
theorem d_M_textAt_2 : decode prog_2_method_7_code 2 = .ok (.iconst 0, 1) := by decide +kernel
theorem d_M_textAt_3 : decode prog_2_method_7_code 3 = .ok (.istore 5, 2) := by decide +kernel
theorem d_M_textAt_5 : decode prog_2_method_7_code 5 = .ok (.iload 5, 2) := by decide +kernel
theorem d_M_textAt_7 : decode prog_2_method_7_code 7 = .ok (.bipush 7, 2) := by decide +kernel
theorem d_M_textAt_9 : decode prog_2_method_7_code 9 = .ok (.if_icmp .gt 63, 3) := by decide +kernel
theorem d_M_textAt_12 : decode prog_2_method_7_code 12 = .ok (.aload_n 0, 1) := by decide +kernel
theorem d_M_textAt_13 : decode prog_2_method_7_code 13 = .ok (.iload_n 1, 1) := by decide +kernel
theorem d_M_textAt_14 : decode prog_2_method_7_code 14 = .ok (.iload_n 2, 1) := by decide +kernel
theorem d_M_textAt_15 : decode prog_2_method_7_code 15 = .ok (.iload 5, 2) := by decide +kernel
theorem d_M_textAt_17 : decode prog_2_method_7_code 17 = .ok (.iadd, 1) := by decide +kernel
theorem d_M_textAt_18 : decode prog_2_method_7_code 18 = .ok (.iconst 1, 1) := by decide +kernel
theorem d_M_textAt_19 : decode prog_2_method_7_code 19 = .ok (.iconst 1, 1) := by decide +kernel
theorem d_M_textAt_20 : decode prog_2_method_7_code 20 = .ok (.invokevirtual 28, 3) := by decide +kernel
theorem d_M_textAt_23 : decode prog_2_method_7_code 23 = .ok (.ifCond .ne 7, 3) := by decide +kernel
theorem d_M_textAt_26 : decode prog_2_method_7_code 26 = .ok (.ldc2_w 32, 3) := by decide +kernel
theorem d_M_textAt_29 : decode prog_2_method_7_code 29 = .ok (.lreturn, 1) := by decide +kernel
theorem d_M_textAt_30 : decode prog_2_method_7_code 30 = .ok (.aload_n 0, 1) := by decide +kernel
theorem d_M_textAt_31 : decode prog_2_method_7_code 31 = .ok (.iload_n 1, 1) := by decide +kernel
theorem d_M_textAt_32 : decode prog_2_method_7_code 32 = .ok (.iload_n 2, 1) := by decide +kernel
theorem d_M_textAt_33 : decode prog_2_method_7_code 33 = .ok (.iload 5, 2) := by decide +kernel
theorem d_M_textAt_35 : decode prog_2_method_7_code 35 = .ok (.iadd, 1) := by decide +kernel
theorem d_M_textAt_36 : decode prog_2_method_7_code 36 = .ok (.invokevirtual 34, 3) := by decide +kernel
theorem d_M_textAt_39 : decode prog_2_method_7_code 39 = .ok (.istore 6, 2) := by decide +kernel
theorem d_M_textAt_41 : decode prog_2_method_7_code 41 = .ok (.iload 6, 2) := by decide +kernel
theorem d_M_textAt_43 : decode prog_2_method_7_code 43 = .ok (.ifCond .ne 14, 3) := by decide +kernel
theorem d_M_textAt_46 : decode prog_2_method_7_code 46 = .ok (.lload_n 3, 1) := by decide +kernel
theorem d_M_textAt_47 : decode prog_2_method_7_code 47 = .ok (.bipush 8, 2) := by decide +kernel
theorem d_M_textAt_49 : decode prog_2_method_7_code 49 = .ok (.bipush 7, 2) := by decide +kernel
theorem d_M_textAt_51 : decode prog_2_method_7_code 51 = .ok (.iload 5, 2) := by decide +kernel
theorem d_M_textAt_53 : decode prog_2_method_7_code 53 = .ok (.isub, 1) := by decide +kernel
theorem d_M_textAt_54 : decode prog_2_method_7_code 54 = .ok (.imul, 1) := by decide +kernel
theorem d_M_textAt_55 : decode prog_2_method_7_code 55 = .ok (.lshl, 1) := by decide +kernel
theorem d_M_textAt_56 : decode prog_2_method_7_code 56 = .ok (.lreturn, 1) := by decide +kernel
theorem d_M_textAt_57 : decode prog_2_method_7_code 57 = .ok (.lload_n 3, 1) := by decide +kernel
theorem d_M_textAt_58 : decode prog_2_method_7_code 58 = .ok (.bipush 8, 2) := by decide +kernel
theorem d_M_textAt_60 : decode prog_2_method_7_code 60 = .ok (.lshl, 1) := by decide +kernel
theorem d_M_textAt_61 : decode prog_2_method_7_code 61 = .ok (.iload 6, 2) := by decide +kernel
theorem d_M_textAt_63 : decode prog_2_method_7_code 63 = .ok (.i2l, 1) := by decide +kernel
theorem d_M_textAt_64 : decode prog_2_method_7_code 64 = .ok (.lor, 1) := by decide +kernel
theorem d_M_textAt_65 : decode prog_2_method_7_code 65 = .ok (.lstore_n 3, 1) := by decide +kernel
theorem d_M_textAt_66 : decode prog_2_method_7_code 66 = .ok (.iinc 5 1, 3) := by decide +kernel
theorem d_M_textAt_69 : decode prog_2_method_7_code 69 = .ok (.goto (-64), 3) := by decide +kernel
theorem d_M_textAt_72 : decode prog_2_method_7_code 72 = .ok (.ldc2_w 32, 3) := by decide +kernel
theorem d_M_textAt_75 : decode prog_2_method_7_code 75 = .ok (.lreturn, 1) := by decide +kernel
def k_M_textAt_0 (G : oG) (Post : oP) : oK := o_lconst 0 <| o_lstore 3 <| o_iconst 0 <| o_istore 5 <| o_jmp G m_M_textAt Post 5 [0, 1, 2, 3, 5]
theorem s_M_textAt_0 {G : oG} {Post : oP} : oS G m_M_textAt Post 0 (k_M_textAt_0 G Post) := by
  unfold k_M_textAt_0
  refine so_lconst d_M_textAt_0 rfl ?_
  refine so_lstore_n d_M_textAt_1 rfl (by decide) ?_
  refine so_iconst d_M_textAt_2 rfl ?_
  refine so_istore d_M_textAt_3 (by decide) ?_
  exact so_jmp
def k_M_textAt_5 (G : oG) (Post : oP) : oK := o_iload 5 <| o_iconst 7 <| o_icmpgt (o_lconst (-1) <| o_lret Post) (o_aload 0 <| o_iload 1 <| o_iload 2 <| o_iload 5 <| o_iadd <| o_iconst 1 <| o_iconst 1 <| o_callV G 0 m_M_allows 4 <| o_jmp G m_M_textAt Post 23 [0, 1, 2, 3, 5])
theorem s_M_textAt_5 {G : oG} {Post : oP} : oS G m_M_textAt Post 5 (k_M_textAt_5 G Post) := by
  unfold k_M_textAt_5
  refine so_iload d_M_textAt_5 ?_
  refine so_bipush d_M_textAt_7 rfl ?_
  refine so_icmpgt d_M_textAt_9 (tgt := 72) (by decide) ?_ ?_
  · refine so_ldc2 w_291 d_M_textAt_72 ?_
    exact so_lret d_M_textAt_75 rfl
  · refine so_aload_n d_M_textAt_12 rfl ?_
    refine so_iload_n d_M_textAt_13 rfl ?_
    refine so_iload_n d_M_textAt_14 rfl ?_
    refine so_iload d_M_textAt_15 ?_
    refine so_iadd d_M_textAt_17 ?_
    refine so_iconst d_M_textAt_18 rfl ?_
    refine so_iconst d_M_textAt_19 rfl ?_
    refine so_callV cl_0 f_M_allows w_287 w_288 w_286 (by decide) (by decide) d_M_textAt_20 ?_
    exact so_jmp
def k_M_textAt_23 (G : oG) (Post : oP) : oK := o_ifne (o_aload 0 <| o_iload 1 <| o_iload 2 <| o_iload 5 <| o_iadd <| o_callV G 0 m_M_load 2 <| o_jmp G m_M_textAt Post 39 [0, 1, 2, 3, 5]) (o_lconst (-1) <| o_lret Post)
theorem s_M_textAt_23 {G : oG} {Post : oP} : oS G m_M_textAt Post 23 (k_M_textAt_23 G Post) := by
  unfold k_M_textAt_23
  refine so_ifne d_M_textAt_23 (tgt := 30) (by decide) ?_ ?_
  · refine so_aload_n d_M_textAt_30 rfl ?_
    refine so_iload_n d_M_textAt_31 rfl ?_
    refine so_iload_n d_M_textAt_32 rfl ?_
    refine so_iload d_M_textAt_33 ?_
    refine so_iadd d_M_textAt_35 ?_
    refine so_callV cl_0 f_M_load w_293 w_294 w_292 (by decide) (by decide) d_M_textAt_36 ?_
    exact so_jmp
  · refine so_ldc2 w_291 d_M_textAt_26 ?_
    exact so_lret d_M_textAt_29 rfl
def k_M_textAt_39 (G : oG) (Post : oP) : oK := o_istore 6 <| o_iload 6 <| o_ifne (o_lload 3 <| o_iconst 8 <| o_lshl <| o_iload 6 <| o_i2l <| o_lor <| o_lstore 3 <| o_iinc 5 1 <| o_jmp G m_M_textAt Post 5 [0, 1, 2, 3, 5]) (o_lload 3 <| o_iconst 8 <| o_iconst 7 <| o_iload 5 <| o_isub <| o_imul <| o_lshl <| o_lret Post)
theorem s_M_textAt_39 {G : oG} {Post : oP} : oS G m_M_textAt Post 39 (k_M_textAt_39 G Post) := by
  unfold k_M_textAt_39
  refine so_istore d_M_textAt_39 (by decide) ?_
  refine so_iload d_M_textAt_41 ?_
  refine so_ifne d_M_textAt_43 (tgt := 57) (by decide) ?_ ?_
  · refine so_lload_n d_M_textAt_57 rfl ?_
    refine so_bipush d_M_textAt_58 rfl ?_
    refine so_lshl d_M_textAt_60 ?_
    refine so_iload d_M_textAt_61 ?_
    refine so_i2l d_M_textAt_63 ?_
    refine so_lor d_M_textAt_64 ?_
    refine so_lstore_n d_M_textAt_65 rfl (by decide) ?_
    refine so_iinc d_M_textAt_66 rfl (by decide) ?_
    refine so_goto d_M_textAt_69 (tgt := 5) (by decide) ?_
    exact so_jmp
  · refine so_lload_n d_M_textAt_46 rfl ?_
    refine so_bipush d_M_textAt_47 rfl ?_
    refine so_bipush d_M_textAt_49 rfl ?_
    refine so_iload d_M_textAt_51 ?_
    refine so_isub d_M_textAt_53 ?_
    refine so_imul d_M_textAt_54 ?_
    refine so_lshl d_M_textAt_55 ?_
    exact so_lret d_M_textAt_56 rfl
theorem d_M_store_0 : decode prog_2_method_6_code 0 = .ok (.aload_n 0, 1) := by decide +kernel
theorem d_M_store_1 : decode prog_2_method_6_code 1 = .ok (.getfield 15, 3) := by decide +kernel
theorem d_M_store_4 : decode prog_2_method_6_code 4 = .ok (.iload_n 1, 1) := by decide +kernel
theorem d_M_store_5 : decode prog_2_method_6_code 5 = .ok (.bipush 16, 2) := by decide +kernel
theorem d_M_store_7 : decode prog_2_method_6_code 7 = .ok (.imul, 1) := by decide +kernel
theorem d_M_store_8 : decode prog_2_method_6_code 8 = .ok (.iload_n 2, 1) := by decide +kernel
theorem d_M_store_9 : decode prog_2_method_6_code 9 = .ok (.bipush 16, 2) := by decide +kernel
theorem d_M_store_11 : decode prog_2_method_6_code 11 = .ok (.idiv, 1) := by decide +kernel
theorem d_M_store_12 : decode prog_2_method_6_code 12 = .ok (.iadd, 1) := by decide +kernel
theorem d_M_store_13 : decode prog_2_method_6_code 13 = .ok (.iaload, 1) := by decide +kernel
theorem d_M_store_14 : decode prog_2_method_6_code 14 = .ok (.bipush 8, 2) := by decide +kernel
theorem d_M_store_16 : decode prog_2_method_6_code 16 = .ok (.idiv, 1) := by decide +kernel
theorem d_M_store_17 : decode prog_2_method_6_code 17 = .ok (.istore 4, 2) := by decide +kernel
theorem d_M_store_19 : decode prog_2_method_6_code 19 = .ok (.aload_n 0, 1) := by decide +kernel
theorem d_M_store_20 : decode prog_2_method_6_code 20 = .ok (.getfield 9, 3) := by decide +kernel
theorem d_M_store_23 : decode prog_2_method_6_code 23 = .ok (.iload 4, 2) := by decide +kernel
theorem d_M_store_25 : decode prog_2_method_6_code 25 = .ok (.bipush 16, 2) := by decide +kernel
theorem d_M_store_27 : decode prog_2_method_6_code 27 = .ok (.imul, 1) := by decide +kernel
theorem d_M_store_28 : decode prog_2_method_6_code 28 = .ok (.iload_n 2, 1) := by decide +kernel
theorem d_M_store_29 : decode prog_2_method_6_code 29 = .ok (.bipush 16, 2) := by decide +kernel
theorem d_M_store_31 : decode prog_2_method_6_code 31 = .ok (.irem, 1) := by decide +kernel
theorem d_M_store_32 : decode prog_2_method_6_code 32 = .ok (.iadd, 1) := by decide +kernel
theorem d_M_store_33 : decode prog_2_method_6_code 33 = .ok (.iload_n 3, 1) := by decide +kernel
theorem d_M_store_34 : decode prog_2_method_6_code 34 = .ok (.iastore, 1) := by decide +kernel
theorem d_M_store_35 : decode prog_2_method_6_code 35 = .ok (.return_, 1) := by decide +kernel
def k_M_store_0 (G : oG) (Post : oP) : oK := o_aload 0 <| o_getf 0 1 <| o_iload 1 <| o_iconst 16 <| o_imul <| o_iload 2 <| o_iconst 16 <| o_idiv <| o_iadd <| o_iald G <| o_iconst 8 <| o_idiv <| o_istore 4 <| o_aload 0 <| o_getf 0 0 <| o_iload 4 <| o_iconst 16 <| o_imul <| o_iload 2 <| o_iconst 16 <| o_irem <| o_iadd <| o_iload 3 <| o_iast <| o_vret Post
theorem s_M_store_0 {G : oG} {Post : oP} : oS G m_M_store Post 0 (k_M_store_0 G Post) := by
  unfold k_M_store_0
  refine so_aload_n d_M_store_0 rfl ?_
  refine so_getf cl_0 (k := 1) (by decide) w_98 d_M_store_1 ?_
  refine so_iload_n d_M_store_4 rfl ?_
  refine so_bipush d_M_store_5 rfl ?_
  refine so_imul d_M_store_7 ?_
  refine so_iload_n d_M_store_8 rfl ?_
  refine so_bipush d_M_store_9 rfl ?_
  refine so_idiv d_M_store_11 ?_
  refine so_iadd d_M_store_12 ?_
  refine so_iald d_M_store_13 ?_
  refine so_bipush d_M_store_14 rfl ?_
  refine so_idiv d_M_store_16 ?_
  refine so_istore d_M_store_17 (by decide) ?_
  refine so_aload_n d_M_store_19 rfl ?_
  refine so_getf cl_0 (k := 0) (by decide) w_96 d_M_store_20 ?_
  refine so_iload d_M_store_23 ?_
  refine so_bipush d_M_store_25 rfl ?_
  refine so_imul d_M_store_27 ?_
  refine so_iload_n d_M_store_28 rfl ?_
  refine so_bipush d_M_store_29 rfl ?_
  refine so_irem d_M_store_31 ?_
  refine so_iadd d_M_store_32 ?_
  refine so_iload_n d_M_store_33 rfl ?_
  refine so_iast d_M_store_34 ?_
  exact so_vret d_M_store_35 rfl
theorem d_N_init_0 : decode prog_3_method_1_code 0 = .ok (.aload_n 0, 1) := by decide +kernel
theorem d_N_init_1 : decode prog_3_method_1_code 1 = .ok (.invokespecial 3, 3) := by decide +kernel
theorem d_N_init_4 : decode prog_3_method_1_code 4 = .ok (.aload_n 0, 1) := by decide +kernel
theorem d_N_init_5 : decode prog_3_method_1_code 5 = .ok (.bipush 8, 2) := by decide +kernel
theorem d_N_init_7 : decode prog_3_method_1_code 7 = .ok (.newarray .long, 2) := by decide +kernel
theorem d_N_init_9 : decode prog_3_method_1_code 9 = .ok (.putfield 9, 3) := by decide +kernel
theorem d_N_init_12 : decode prog_3_method_1_code 12 = .ok (.aload_n 0, 1) := by decide +kernel
theorem d_N_init_13 : decode prog_3_method_1_code 13 = .ok (.bipush 8, 2) := by decide +kernel
theorem d_N_init_15 : decode prog_3_method_1_code 15 = .ok (.newarray .int, 2) := by decide +kernel
theorem d_N_init_17 : decode prog_3_method_1_code 17 = .ok (.putfield 15, 3) := by decide +kernel
theorem d_N_init_20 : decode prog_3_method_1_code 20 = .ok (.aload_n 0, 1) := by decide +kernel
theorem d_N_init_21 : decode prog_3_method_1_code 21 = .ok (.iconst 0, 1) := by decide +kernel
theorem d_N_init_22 : decode prog_3_method_1_code 22 = .ok (.putfield 19, 3) := by decide +kernel
theorem d_N_init_25 : decode prog_3_method_1_code 25 = .ok (.return_, 1) := by decide +kernel
def k_N_init_0 (G : oG) (Post : oP) : oK := o_aload 0 <| o_objInit <| o_aload 0 <| o_iconst 8 <| o_newa 1 (.inr (.inl (fun _ => 0))) <| o_putfR 1 0 <| o_aload 0 <| o_iconst 8 <| o_newa 0 (.inl (fun _ => 0)) <| o_putfR 1 1 <| o_aload 0 <| o_iconst 0 <| o_putfI 1 2 <| o_vret Post
theorem s_N_init_0 {G : oG} {Post : oP} : oS G m_N_init Post 0 (k_N_init_0 G Post) := by
  unfold k_N_init_0
  refine so_aload_n d_N_init_0 rfl ?_
  refine so_objInit w_110 w_85 w_objcode (by decide) (by decide) d_N_init_1 ?_
  refine so_aload_n d_N_init_4 rfl ?_
  refine so_bipush d_N_init_5 rfl ?_
  refine so_newa (ty := .long) rfl w_124 (t := 1) rfl (fun _ q => by cases q) (by decide) rfl (fun _ _ => rfl) d_N_init_7 ?_
  refine so_putfRF cl_1 (k := 0) (by decide) (Or.inr ⟨_, rfl⟩) rfl rfl rfl w_111 d_N_init_9 ?_
  refine so_aload_n d_N_init_12 rfl ?_
  refine so_bipush d_N_init_13 rfl ?_
  refine so_newa (ty := .int) rfl w_104 (t := 0) rfl (fun _ q => by cases q) (by decide) rfl (fun _ _ => rfl) d_N_init_15 ?_
  refine so_putfRF cl_1 (k := 1) (by decide) (Or.inr ⟨_, rfl⟩) rfl rfl rfl w_113 d_N_init_17 ?_
  refine so_aload_n d_N_init_20 rfl ?_
  refine so_iconst d_N_init_21 rfl ?_
  refine so_putfI cl_1 (k := 2) (by decide) rfl rfl w_115 d_N_init_22 ?_
  exact so_vret d_N_init_25 rfl
theorem d_N_find_0 : decode prog_3_method_5_code 0 = .ok (.iconst 0, 1) := by decide +kernel
theorem d_N_find_1 : decode prog_3_method_5_code 1 = .ok (.istore_n 3, 1) := by decide +kernel
theorem d_N_find_2 : decode prog_3_method_5_code 2 = .ok (.iload_n 3, 1) := by decide +kernel
theorem d_N_find_3 : decode prog_3_method_5_code 3 = .ok (.aload_n 0, 1) := by decide +kernel
theorem d_N_find_4 : decode prog_3_method_5_code 4 = .ok (.getfield 19, 3) := by decide +kernel
theorem d_N_find_7 : decode prog_3_method_5_code 7 = .ok (.if_icmp .ge 22, 3) := by decide +kernel
theorem d_N_find_10 : decode prog_3_method_5_code 10 = .ok (.aload_n 0, 1) := by decide +kernel
theorem d_N_find_11 : decode prog_3_method_5_code 11 = .ok (.getfield 9, 3) := by decide +kernel
theorem d_N_find_14 : decode prog_3_method_5_code 14 = .ok (.iload_n 3, 1) := by decide +kernel
theorem d_N_find_15 : decode prog_3_method_5_code 15 = .ok (.laload, 1) := by decide +kernel
theorem d_N_find_16 : decode prog_3_method_5_code 16 = .ok (.lload_n 1, 1) := by decide +kernel
theorem d_N_find_17 : decode prog_3_method_5_code 17 = .ok (.lcmp, 1) := by decide +kernel
theorem d_N_find_18 : decode prog_3_method_5_code 18 = .ok (.ifCond .ne 5, 3) := by decide +kernel
theorem d_N_find_21 : decode prog_3_method_5_code 21 = .ok (.iload_n 3, 1) := by decide +kernel
theorem d_N_find_22 : decode prog_3_method_5_code 22 = .ok (.ireturn, 1) := by decide +kernel
theorem d_N_find_23 : decode prog_3_method_5_code 23 = .ok (.iinc 3 1, 3) := by decide +kernel
theorem d_N_find_26 : decode prog_3_method_5_code 26 = .ok (.goto (-24), 3) := by decide +kernel
theorem d_N_find_29 : decode prog_3_method_5_code 29 = .ok (.iconst (-1), 1) := by decide +kernel
theorem d_N_find_30 : decode prog_3_method_5_code 30 = .ok (.ireturn, 1) := by decide +kernel
def k_N_find_0 (G : oG) (Post : oP) : oK := o_iconst 0 <| o_istore 3 <| o_jmp G m_N_find Post 2 [0, 1, 3]
theorem s_N_find_0 {G : oG} {Post : oP} : oS G m_N_find Post 0 (k_N_find_0 G Post) := by
  unfold k_N_find_0
  refine so_iconst d_N_find_0 rfl ?_
  refine so_istore_n d_N_find_1 rfl (by decide) ?_
  exact so_jmp
def k_N_find_2 (G : oG) (Post : oP) : oK := o_iload 3 <| o_aload 0 <| o_getf 1 2 <| o_icmpge (o_iconst (-1) <| o_iret Post) (o_aload 0 <| o_getf 1 0 <| o_iload 3 <| o_lald <| o_lload 1 <| o_lcmp <| o_ifne (o_iinc 3 1 <| o_jmp G m_N_find Post 2 [0, 1, 3]) (o_iload 3 <| o_iret Post))
theorem s_N_find_2 {G : oG} {Post : oP} : oS G m_N_find Post 2 (k_N_find_2 G Post) := by
  unfold k_N_find_2
  refine so_iload_n d_N_find_2 rfl ?_
  refine so_aload_n d_N_find_3 rfl ?_
  refine so_getf cl_1 (k := 2) (by decide) w_115 d_N_find_4 ?_
  refine so_icmpge d_N_find_7 (tgt := 29) (by decide) ?_ ?_
  · refine so_iconst d_N_find_29 rfl ?_
    exact so_iret d_N_find_30 rfl
  · refine so_aload_n d_N_find_10 rfl ?_
    refine so_getf cl_1 (k := 0) (by decide) w_111 d_N_find_11 ?_
    refine so_iload_n d_N_find_14 rfl ?_
    refine so_lald d_N_find_15 ?_
    refine so_lload_n d_N_find_16 rfl ?_
    refine so_lcmp d_N_find_17 ?_
    refine so_ifne d_N_find_18 (tgt := 23) (by decide) ?_ ?_
    · refine so_iinc d_N_find_23 rfl (by decide) ?_
      refine so_goto d_N_find_26 (tgt := 2) (by decide) ?_
      exact so_jmp
    · refine so_iload_n d_N_find_21 rfl ?_
      exact so_iret d_N_find_22 rfl
theorem d_N_countOf_0 : decode prog_3_method_6_code 0 = .ok (.iconst 0, 1) := by decide +kernel
theorem d_N_countOf_1 : decode prog_3_method_6_code 1 = .ok (.istore_n 2, 1) := by decide +kernel
theorem d_N_countOf_2 : decode prog_3_method_6_code 2 = .ok (.iconst 0, 1) := by decide +kernel
theorem d_N_countOf_3 : decode prog_3_method_6_code 3 = .ok (.istore_n 3, 1) := by decide +kernel
theorem d_N_countOf_4 : decode prog_3_method_6_code 4 = .ok (.iload_n 3, 1) := by decide +kernel
theorem d_N_countOf_5 : decode prog_3_method_6_code 5 = .ok (.aload_n 0, 1) := by decide +kernel
theorem d_N_countOf_6 : decode prog_3_method_6_code 6 = .ok (.getfield 19, 3) := by decide +kernel
theorem d_N_countOf_9 : decode prog_3_method_6_code 9 = .ok (.if_icmp .ge 22, 3) := by decide +kernel
theorem d_N_countOf_12 : decode prog_3_method_6_code 12 = .ok (.aload_n 0, 1) := by decide +kernel
theorem d_N_countOf_13 : decode prog_3_method_6_code 13 = .ok (.getfield 15, 3) := by decide +kernel
theorem d_N_countOf_16 : decode prog_3_method_6_code 16 = .ok (.iload_n 3, 1) := by decide +kernel
theorem d_N_countOf_17 : decode prog_3_method_6_code 17 = .ok (.iaload, 1) := by decide +kernel
theorem d_N_countOf_18 : decode prog_3_method_6_code 18 = .ok (.iload_n 1, 1) := by decide +kernel
theorem d_N_countOf_19 : decode prog_3_method_6_code 19 = .ok (.if_icmp .ne 6, 3) := by decide +kernel
theorem d_N_countOf_22 : decode prog_3_method_6_code 22 = .ok (.iinc 2 1, 3) := by decide +kernel
theorem d_N_countOf_25 : decode prog_3_method_6_code 25 = .ok (.iinc 3 1, 3) := by decide +kernel
theorem d_N_countOf_28 : decode prog_3_method_6_code 28 = .ok (.goto (-24), 3) := by decide +kernel
theorem d_N_countOf_31 : decode prog_3_method_6_code 31 = .ok (.iload_n 2, 1) := by decide +kernel
theorem d_N_countOf_32 : decode prog_3_method_6_code 32 = .ok (.ireturn, 1) := by decide +kernel
def k_N_countOf_0 (G : oG) (Post : oP) : oK := o_iconst 0 <| o_istore 2 <| o_iconst 0 <| o_istore 3 <| o_jmp G m_N_countOf Post 4 [0, 1, 2, 3]
theorem s_N_countOf_0 {G : oG} {Post : oP} : oS G m_N_countOf Post 0 (k_N_countOf_0 G Post) := by
  unfold k_N_countOf_0
  refine so_iconst d_N_countOf_0 rfl ?_
  refine so_istore_n d_N_countOf_1 rfl (by decide) ?_
  refine so_iconst d_N_countOf_2 rfl ?_
  refine so_istore_n d_N_countOf_3 rfl (by decide) ?_
  exact so_jmp
def k_N_countOf_4 (G : oG) (Post : oP) : oK := o_iload 3 <| o_aload 0 <| o_getf 1 2 <| o_icmpge (o_iload 2 <| o_iret Post) (o_aload 0 <| o_getf 1 1 <| o_iload 3 <| o_iald G <| o_iload 1 <| o_icmpne (o_iinc 3 1 <| o_jmp G m_N_countOf Post 4 [0, 1, 2, 3]) (o_iinc 2 1 <| o_iinc 3 1 <| o_jmp G m_N_countOf Post 4 [0, 1, 2, 3]))
theorem s_N_countOf_4 {G : oG} {Post : oP} : oS G m_N_countOf Post 4 (k_N_countOf_4 G Post) := by
  unfold k_N_countOf_4
  refine so_iload_n d_N_countOf_4 rfl ?_
  refine so_aload_n d_N_countOf_5 rfl ?_
  refine so_getf cl_1 (k := 2) (by decide) w_115 d_N_countOf_6 ?_
  refine so_icmpge d_N_countOf_9 (tgt := 31) (by decide) ?_ ?_
  · refine so_iload_n d_N_countOf_31 rfl ?_
    exact so_iret d_N_countOf_32 rfl
  · refine so_aload_n d_N_countOf_12 rfl ?_
    refine so_getf cl_1 (k := 1) (by decide) w_113 d_N_countOf_13 ?_
    refine so_iload_n d_N_countOf_16 rfl ?_
    refine so_iald d_N_countOf_17 ?_
    refine so_iload_n d_N_countOf_18 rfl ?_
    refine so_icmpne d_N_countOf_19 (tgt := 25) (by decide) ?_ ?_
    · refine so_iinc d_N_countOf_25 rfl (by decide) ?_
      refine so_goto d_N_countOf_28 (tgt := 4) (by decide) ?_
      exact so_jmp
    · refine so_iinc d_N_countOf_22 rfl (by decide) ?_
      refine so_iinc d_N_countOf_25 rfl (by decide) ?_
      refine so_goto d_N_countOf_28 (tgt := 4) (by decide) ?_
      exact so_jmp
theorem d_N_isFull_0 : decode prog_3_method_4_code 0 = .ok (.aload_n 0, 1) := by decide +kernel
theorem d_N_isFull_1 : decode prog_3_method_4_code 1 = .ok (.getfield 19, 3) := by decide +kernel
theorem d_N_isFull_4 : decode prog_3_method_4_code 4 = .ok (.bipush 8, 2) := by decide +kernel
theorem d_N_isFull_6 : decode prog_3_method_4_code 6 = .ok (.if_icmp .ne 7, 3) := by decide +kernel
theorem d_N_isFull_9 : decode prog_3_method_4_code 9 = .ok (.iconst 1, 1) := by decide +kernel
theorem d_N_isFull_10 : decode prog_3_method_4_code 10 = .ok (.goto 4, 3) := by decide +kernel
theorem d_N_isFull_13 : decode prog_3_method_4_code 13 = .ok (.iconst 0, 1) := by decide +kernel
theorem d_N_isFull_14 : decode prog_3_method_4_code 14 = .ok (.ireturn, 1) := by decide +kernel
def k_N_isFull_0 (G : oG) (Post : oP) : oK := o_aload 0 <| o_getf 1 2 <| o_iconst 8 <| o_icmpne (o_iconst 0 <| o_zret Post) (o_iconst 1 <| o_zret Post)
theorem s_N_isFull_0 {G : oG} {Post : oP} : oS G m_N_isFull Post 0 (k_N_isFull_0 G Post) := by
  unfold k_N_isFull_0
  refine so_aload_n d_N_isFull_0 rfl ?_
  refine so_getf cl_1 (k := 2) (by decide) w_115 d_N_isFull_1 ?_
  refine so_bipush d_N_isFull_4 rfl ?_
  refine so_icmpne d_N_isFull_6 (tgt := 13) (by decide) ?_ ?_
  · refine so_iconst d_N_isFull_13 rfl ?_
    exact so_zret d_N_isFull_14 rfl
  · refine so_iconst d_N_isFull_9 rfl ?_
    refine so_goto d_N_isFull_10 (tgt := 14) (by decide) ?_
    exact so_zret d_N_isFull_14 rfl
theorem d_N_add_0 : decode prog_3_method_7_code 0 = .ok (.aload_n 0, 1) := by decide +kernel
theorem d_N_add_1 : decode prog_3_method_7_code 1 = .ok (.getfield 19, 3) := by decide +kernel
theorem d_N_add_4 : decode prog_3_method_7_code 4 = .ok (.istore 4, 2) := by decide +kernel
theorem d_N_add_6 : decode prog_3_method_7_code 6 = .ok (.iload 4, 2) := by decide +kernel
theorem d_N_add_8 : decode prog_3_method_7_code 8 = .ok (.ifCond .le 55, 3) := by decide +kernel
theorem d_N_add_11 : decode prog_3_method_7_code 11 = .ok (.aload_n 0, 1) := by decide +kernel
theorem d_N_add_12 : decode prog_3_method_7_code 12 = .ok (.getfield 9, 3) := by decide +kernel
theorem d_N_add_15 : decode prog_3_method_7_code 15 = .ok (.iload 4, 2) := by decide +kernel
theorem d_N_add_17 : decode prog_3_method_7_code 17 = .ok (.iconst 1, 1) := by decide +kernel
theorem d_N_add_18 : decode prog_3_method_7_code 18 = .ok (.isub, 1) := by decide +kernel
theorem d_N_add_19 : decode prog_3_method_7_code 19 = .ok (.laload, 1) := by decide +kernel
theorem d_N_add_20 : decode prog_3_method_7_code 20 = .ok (.lload_n 1, 1) := by decide +kernel
theorem d_N_add_21 : decode prog_3_method_7_code 21 = .ok (.lcmp, 1) := by decide +kernel
theorem d_N_add_22 : decode prog_3_method_7_code 22 = .ok (.ifCond .le 41, 3) := by decide +kernel
theorem d_N_add_25 : decode prog_3_method_7_code 25 = .ok (.aload_n 0, 1) := by decide +kernel
theorem d_N_add_26 : decode prog_3_method_7_code 26 = .ok (.getfield 9, 3) := by decide +kernel
theorem d_N_add_29 : decode prog_3_method_7_code 29 = .ok (.iload 4, 2) := by decide +kernel
theorem d_N_add_31 : decode prog_3_method_7_code 31 = .ok (.aload_n 0, 1) := by decide +kernel
theorem d_N_add_32 : decode prog_3_method_7_code 32 = .ok (.getfield 9, 3) := by decide +kernel
theorem d_N_add_35 : decode prog_3_method_7_code 35 = .ok (.iload 4, 2) := by decide +kernel
theorem d_N_add_37 : decode prog_3_method_7_code 37 = .ok (.iconst 1, 1) := by decide +kernel
theorem d_N_add_38 : decode prog_3_method_7_code 38 = .ok (.isub, 1) := by decide +kernel
theorem d_N_add_39 : decode prog_3_method_7_code 39 = .ok (.laload, 1) := by decide +kernel
theorem d_N_add_40 : decode prog_3_method_7_code 40 = .ok (.lastore, 1) := by decide +kernel
theorem d_N_add_41 : decode prog_3_method_7_code 41 = .ok (.aload_n 0, 1) := by decide +kernel
theorem d_N_add_42 : decode prog_3_method_7_code 42 = .ok (.getfield 15, 3) := by decide +kernel
theorem d_N_add_45 : decode prog_3_method_7_code 45 = .ok (.iload 4, 2) := by decide +kernel
theorem d_N_add_47 : decode prog_3_method_7_code 47 = .ok (.aload_n 0, 1) := by decide +kernel
theorem d_N_add_48 : decode prog_3_method_7_code 48 = .ok (.getfield 15, 3) := by decide +kernel
theorem d_N_add_51 : decode prog_3_method_7_code 51 = .ok (.iload 4, 2) := by decide +kernel
theorem d_N_add_53 : decode prog_3_method_7_code 53 = .ok (.iconst 1, 1) := by decide +kernel
theorem d_N_add_54 : decode prog_3_method_7_code 54 = .ok (.isub, 1) := by decide +kernel
theorem d_N_add_55 : decode prog_3_method_7_code 55 = .ok (.iaload, 1) := by decide +kernel
theorem d_N_add_56 : decode prog_3_method_7_code 56 = .ok (.iastore, 1) := by decide +kernel
theorem d_N_add_57 : decode prog_3_method_7_code 57 = .ok (.iinc 4 (-1), 3) := by decide +kernel
theorem d_N_add_60 : decode prog_3_method_7_code 60 = .ok (.goto (-54), 3) := by decide +kernel
theorem d_N_add_63 : decode prog_3_method_7_code 63 = .ok (.aload_n 0, 1) := by decide +kernel
theorem d_N_add_64 : decode prog_3_method_7_code 64 = .ok (.getfield 9, 3) := by decide +kernel
theorem d_N_add_67 : decode prog_3_method_7_code 67 = .ok (.iload 4, 2) := by decide +kernel
theorem d_N_add_69 : decode prog_3_method_7_code 69 = .ok (.lload_n 1, 1) := by decide +kernel
theorem d_N_add_70 : decode prog_3_method_7_code 70 = .ok (.lastore, 1) := by decide +kernel
theorem d_N_add_71 : decode prog_3_method_7_code 71 = .ok (.aload_n 0, 1) := by decide +kernel
theorem d_N_add_72 : decode prog_3_method_7_code 72 = .ok (.getfield 15, 3) := by decide +kernel
theorem d_N_add_75 : decode prog_3_method_7_code 75 = .ok (.iload 4, 2) := by decide +kernel
theorem d_N_add_77 : decode prog_3_method_7_code 77 = .ok (.iload_n 3, 1) := by decide +kernel
theorem d_N_add_78 : decode prog_3_method_7_code 78 = .ok (.iastore, 1) := by decide +kernel
theorem d_N_add_79 : decode prog_3_method_7_code 79 = .ok (.aload_n 0, 1) := by decide +kernel
theorem d_N_add_80 : decode prog_3_method_7_code 80 = .ok (.dup, 1) := by decide +kernel
theorem d_N_add_81 : decode prog_3_method_7_code 81 = .ok (.getfield 19, 3) := by decide +kernel
theorem d_N_add_84 : decode prog_3_method_7_code 84 = .ok (.iconst 1, 1) := by decide +kernel
theorem d_N_add_85 : decode prog_3_method_7_code 85 = .ok (.iadd, 1) := by decide +kernel
theorem d_N_add_86 : decode prog_3_method_7_code 86 = .ok (.putfield 19, 3) := by decide +kernel
theorem d_N_add_89 : decode prog_3_method_7_code 89 = .ok (.return_, 1) := by decide +kernel
def k_N_add_0 (G : oG) (Post : oP) : oK := o_aload 0 <| o_getf 1 2 <| o_istore 4 <| o_jmp G m_N_add Post 6 [0, 1, 3, 4]
theorem s_N_add_0 {G : oG} {Post : oP} : oS G m_N_add Post 0 (k_N_add_0 G Post) := by
  unfold k_N_add_0
  refine so_aload_n d_N_add_0 rfl ?_
  refine so_getf cl_1 (k := 2) (by decide) w_115 d_N_add_1 ?_
  refine so_istore d_N_add_4 (by decide) ?_
  exact so_jmp
def k_N_add_6 (G : oG) (Post : oP) : oK := o_iload 4 <| o_ifle (o_jmp G m_N_add Post 63 [0, 1, 3, 4]) (o_aload 0 <| o_getf 1 0 <| o_iload 4 <| o_iconst 1 <| o_isub <| o_lald <| o_lload 1 <| o_lcmp <| o_ifle (o_jmp G m_N_add Post 63 [0, 1, 3, 4]) (o_aload 0 <| o_getf 1 0 <| o_iload 4 <| o_aload 0 <| o_getf 1 0 <| o_iload 4 <| o_iconst 1 <| o_isub <| o_lald <| o_last <| o_aload 0 <| o_getf 1 1 <| o_iload 4 <| o_aload 0 <| o_getf 1 1 <| o_iload 4 <| o_iconst 1 <| o_isub <| o_iald G <| o_iast <| o_iinc 4 (-1) <| o_jmp G m_N_add Post 6 [0, 1, 3, 4]))
theorem s_N_add_6 {G : oG} {Post : oP} : oS G m_N_add Post 6 (k_N_add_6 G Post) := by
  unfold k_N_add_6
  refine so_iload d_N_add_6 ?_
  refine so_ifle d_N_add_8 (tgt := 63) (by decide) ?_ ?_
  · exact so_jmp
  · refine so_aload_n d_N_add_11 rfl ?_
    refine so_getf cl_1 (k := 0) (by decide) w_111 d_N_add_12 ?_
    refine so_iload d_N_add_15 ?_
    refine so_iconst d_N_add_17 rfl ?_
    refine so_isub d_N_add_18 ?_
    refine so_lald d_N_add_19 ?_
    refine so_lload_n d_N_add_20 rfl ?_
    refine so_lcmp d_N_add_21 ?_
    refine so_ifle d_N_add_22 (tgt := 63) (by decide) ?_ ?_
    · exact so_jmp
    · refine so_aload_n d_N_add_25 rfl ?_
      refine so_getf cl_1 (k := 0) (by decide) w_111 d_N_add_26 ?_
      refine so_iload d_N_add_29 ?_
      refine so_aload_n d_N_add_31 rfl ?_
      refine so_getf cl_1 (k := 0) (by decide) w_111 d_N_add_32 ?_
      refine so_iload d_N_add_35 ?_
      refine so_iconst d_N_add_37 rfl ?_
      refine so_isub d_N_add_38 ?_
      refine so_lald d_N_add_39 ?_
      refine so_last d_N_add_40 ?_
      refine so_aload_n d_N_add_41 rfl ?_
      refine so_getf cl_1 (k := 1) (by decide) w_113 d_N_add_42 ?_
      refine so_iload d_N_add_45 ?_
      refine so_aload_n d_N_add_47 rfl ?_
      refine so_getf cl_1 (k := 1) (by decide) w_113 d_N_add_48 ?_
      refine so_iload d_N_add_51 ?_
      refine so_iconst d_N_add_53 rfl ?_
      refine so_isub d_N_add_54 ?_
      refine so_iald d_N_add_55 ?_
      refine so_iast d_N_add_56 ?_
      refine so_iinc d_N_add_57 rfl (by decide) ?_
      refine so_goto d_N_add_60 (tgt := 6) (by decide) ?_
      exact so_jmp
def k_N_add_63 (G : oG) (Post : oP) : oK := o_aload 0 <| o_getf 1 0 <| o_iload 4 <| o_lload 1 <| o_last <| o_aload 0 <| o_getf 1 1 <| o_iload 4 <| o_iload 3 <| o_iast <| o_aload 0 <| o_dup <| o_getf 1 2 <| o_iconst 1 <| o_iadd <| o_putfI 1 2 <| o_vret Post
theorem s_N_add_63 {G : oG} {Post : oP} : oS G m_N_add Post 63 (k_N_add_63 G Post) := by
  unfold k_N_add_63
  refine so_aload_n d_N_add_63 rfl ?_
  refine so_getf cl_1 (k := 0) (by decide) w_111 d_N_add_64 ?_
  refine so_iload d_N_add_67 ?_
  refine so_lload_n d_N_add_69 rfl ?_
  refine so_last d_N_add_70 ?_
  refine so_aload_n d_N_add_71 rfl ?_
  refine so_getf cl_1 (k := 1) (by decide) w_113 d_N_add_72 ?_
  refine so_iload d_N_add_75 ?_
  refine so_iload_n d_N_add_77 rfl ?_
  refine so_iast d_N_add_78 ?_
  refine so_aload_n d_N_add_79 rfl ?_
  refine so_dup d_N_add_80 ?_
  refine so_getf cl_1 (k := 2) (by decide) w_115 d_N_add_81 ?_
  refine so_iconst d_N_add_84 rfl ?_
  refine so_iadd d_N_add_85 ?_
  refine so_putfI cl_1 (k := 2) (by decide) rfl rfl w_115 d_N_add_86 ?_
  exact so_vret d_N_add_89 rfl
theorem d_N_remove_0 : decode prog_3_method_8_code 0 = .ok (.aload_n 0, 1) := by decide +kernel
theorem d_N_remove_1 : decode prog_3_method_8_code 1 = .ok (.dup, 1) := by decide +kernel
theorem d_N_remove_2 : decode prog_3_method_8_code 2 = .ok (.getfield 19, 3) := by decide +kernel
theorem d_N_remove_5 : decode prog_3_method_8_code 5 = .ok (.iconst 1, 1) := by decide +kernel
theorem d_N_remove_6 : decode prog_3_method_8_code 6 = .ok (.isub, 1) := by decide +kernel
theorem d_N_remove_7 : decode prog_3_method_8_code 7 = .ok (.putfield 19, 3) := by decide +kernel
theorem d_N_remove_10 : decode prog_3_method_8_code 10 = .ok (.iload_n 1, 1) := by decide +kernel
theorem d_N_remove_11 : decode prog_3_method_8_code 11 = .ok (.istore_n 2, 1) := by decide +kernel
theorem d_N_remove_12 : decode prog_3_method_8_code 12 = .ok (.iload_n 2, 1) := by decide +kernel
theorem d_N_remove_13 : decode prog_3_method_8_code 13 = .ok (.aload_n 0, 1) := by decide +kernel
theorem d_N_remove_14 : decode prog_3_method_8_code 14 = .ok (.getfield 19, 3) := by decide +kernel
theorem d_N_remove_17 : decode prog_3_method_8_code 17 = .ok (.if_icmp .ge 37, 3) := by decide +kernel
theorem d_N_remove_20 : decode prog_3_method_8_code 20 = .ok (.aload_n 0, 1) := by decide +kernel
theorem d_N_remove_21 : decode prog_3_method_8_code 21 = .ok (.getfield 9, 3) := by decide +kernel
theorem d_N_remove_24 : decode prog_3_method_8_code 24 = .ok (.iload_n 2, 1) := by decide +kernel
theorem d_N_remove_25 : decode prog_3_method_8_code 25 = .ok (.aload_n 0, 1) := by decide +kernel
theorem d_N_remove_26 : decode prog_3_method_8_code 26 = .ok (.getfield 9, 3) := by decide +kernel
theorem d_N_remove_29 : decode prog_3_method_8_code 29 = .ok (.iload_n 2, 1) := by decide +kernel
theorem d_N_remove_30 : decode prog_3_method_8_code 30 = .ok (.iconst 1, 1) := by decide +kernel
theorem d_N_remove_31 : decode prog_3_method_8_code 31 = .ok (.iadd, 1) := by decide +kernel
theorem d_N_remove_32 : decode prog_3_method_8_code 32 = .ok (.laload, 1) := by decide +kernel
theorem d_N_remove_33 : decode prog_3_method_8_code 33 = .ok (.lastore, 1) := by decide +kernel
theorem d_N_remove_34 : decode prog_3_method_8_code 34 = .ok (.aload_n 0, 1) := by decide +kernel
theorem d_N_remove_35 : decode prog_3_method_8_code 35 = .ok (.getfield 15, 3) := by decide +kernel
theorem d_N_remove_38 : decode prog_3_method_8_code 38 = .ok (.iload_n 2, 1) := by decide +kernel
theorem d_N_remove_39 : decode prog_3_method_8_code 39 = .ok (.aload_n 0, 1) := by decide +kernel
theorem d_N_remove_40 : decode prog_3_method_8_code 40 = .ok (.getfield 15, 3) := by decide +kernel
theorem d_N_remove_43 : decode prog_3_method_8_code 43 = .ok (.iload_n 2, 1) := by decide +kernel
theorem d_N_remove_44 : decode prog_3_method_8_code 44 = .ok (.iconst 1, 1) := by decide +kernel
theorem d_N_remove_45 : decode prog_3_method_8_code 45 = .ok (.iadd, 1) := by decide +kernel
theorem d_N_remove_46 : decode prog_3_method_8_code 46 = .ok (.iaload, 1) := by decide +kernel
theorem d_N_remove_47 : decode prog_3_method_8_code 47 = .ok (.iastore, 1) := by decide +kernel
theorem d_N_remove_48 : decode prog_3_method_8_code 48 = .ok (.iinc 2 1, 3) := by decide +kernel
theorem d_N_remove_51 : decode prog_3_method_8_code 51 = .ok (.goto (-39), 3) := by decide +kernel
theorem d_N_remove_54 : decode prog_3_method_8_code 54 = .ok (.return_, 1) := by decide +kernel
def k_N_remove_0 (G : oG) (Post : oP) : oK := o_aload 0 <| o_dup <| o_getf 1 2 <| o_iconst 1 <| o_isub <| o_putfI 1 2 <| o_iload 1 <| o_istore 2 <| o_jmp G m_N_remove Post 12 [0, 2]
theorem s_N_remove_0 {G : oG} {Post : oP} : oS G m_N_remove Post 0 (k_N_remove_0 G Post) := by
  unfold k_N_remove_0
  refine so_aload_n d_N_remove_0 rfl ?_
  refine so_dup d_N_remove_1 ?_
  refine so_getf cl_1 (k := 2) (by decide) w_115 d_N_remove_2 ?_
  refine so_iconst d_N_remove_5 rfl ?_
  refine so_isub d_N_remove_6 ?_
  refine so_putfI cl_1 (k := 2) (by decide) rfl rfl w_115 d_N_remove_7 ?_
  refine so_iload_n d_N_remove_10 rfl ?_
  refine so_istore_n d_N_remove_11 rfl (by decide) ?_
  exact so_jmp
def k_N_remove_12 (G : oG) (Post : oP) : oK := o_iload 2 <| o_aload 0 <| o_getf 1 2 <| o_icmpge (o_vret Post) (o_aload 0 <| o_getf 1 0 <| o_iload 2 <| o_aload 0 <| o_getf 1 0 <| o_iload 2 <| o_iconst 1 <| o_iadd <| o_lald <| o_last <| o_aload 0 <| o_getf 1 1 <| o_iload 2 <| o_aload 0 <| o_getf 1 1 <| o_iload 2 <| o_iconst 1 <| o_iadd <| o_iald G <| o_iast <| o_iinc 2 1 <| o_jmp G m_N_remove Post 12 [0, 2])
theorem s_N_remove_12 {G : oG} {Post : oP} : oS G m_N_remove Post 12 (k_N_remove_12 G Post) := by
  unfold k_N_remove_12
  refine so_iload_n d_N_remove_12 rfl ?_
  refine so_aload_n d_N_remove_13 rfl ?_
  refine so_getf cl_1 (k := 2) (by decide) w_115 d_N_remove_14 ?_
  refine so_icmpge d_N_remove_17 (tgt := 54) (by decide) ?_ ?_
  · exact so_vret d_N_remove_54 rfl
  · refine so_aload_n d_N_remove_20 rfl ?_
    refine so_getf cl_1 (k := 0) (by decide) w_111 d_N_remove_21 ?_
    refine so_iload_n d_N_remove_24 rfl ?_
    refine so_aload_n d_N_remove_25 rfl ?_
    refine so_getf cl_1 (k := 0) (by decide) w_111 d_N_remove_26 ?_
    refine so_iload_n d_N_remove_29 rfl ?_
    refine so_iconst d_N_remove_30 rfl ?_
    refine so_iadd d_N_remove_31 ?_
    refine so_lald d_N_remove_32 ?_
    refine so_last d_N_remove_33 ?_
    refine so_aload_n d_N_remove_34 rfl ?_
    refine so_getf cl_1 (k := 1) (by decide) w_113 d_N_remove_35 ?_
    refine so_iload_n d_N_remove_38 rfl ?_
    refine so_aload_n d_N_remove_39 rfl ?_
    refine so_getf cl_1 (k := 1) (by decide) w_113 d_N_remove_40 ?_
    refine so_iload_n d_N_remove_43 rfl ?_
    refine so_iconst d_N_remove_44 rfl ?_
    refine so_iadd d_N_remove_45 ?_
    refine so_iald d_N_remove_46 ?_
    refine so_iast d_N_remove_47 ?_
    refine so_iinc d_N_remove_48 rfl (by decide) ?_
    refine so_goto d_N_remove_51 (tgt := 12) (by decide) ?_
    exact so_jmp
theorem d_N_byteOf_0 : decode prog_3_method_2_code 0 = .ok (.lload_n 0, 1) := by decide +kernel
theorem d_N_byteOf_1 : decode prog_3_method_2_code 1 = .ok (.bipush 8, 2) := by decide +kernel
theorem d_N_byteOf_3 : decode prog_3_method_2_code 3 = .ok (.bipush 6, 2) := by decide +kernel
theorem d_N_byteOf_5 : decode prog_3_method_2_code 5 = .ok (.iload_n 2, 1) := by decide +kernel
theorem d_N_byteOf_6 : decode prog_3_method_2_code 6 = .ok (.isub, 1) := by decide +kernel
theorem d_N_byteOf_7 : decode prog_3_method_2_code 7 = .ok (.imul, 1) := by decide +kernel
theorem d_N_byteOf_8 : decode prog_3_method_2_code 8 = .ok (.lushr, 1) := by decide +kernel
theorem d_N_byteOf_9 : decode prog_3_method_2_code 9 = .ok (.l2i, 1) := by decide +kernel
theorem d_N_byteOf_10 : decode prog_3_method_2_code 10 = .ok (.sipush 255, 3) := by decide +kernel
theorem d_N_byteOf_13 : decode prog_3_method_2_code 13 = .ok (.iand, 1) := by decide +kernel
theorem d_N_byteOf_14 : decode prog_3_method_2_code 14 = .ok (.ireturn, 1) := by decide +kernel
def k_N_byteOf_0 (G : oG) (Post : oP) : oK := o_lload 0 <| o_iconst 8 <| o_iconst 6 <| o_iload 2 <| o_isub <| o_imul <| o_lushr <| o_l2i <| o_iconst 255 <| o_iand <| o_iret Post
theorem s_N_byteOf_0 {G : oG} {Post : oP} : oS G m_N_byteOf Post 0 (k_N_byteOf_0 G Post) := by
  unfold k_N_byteOf_0
  refine so_lload_n d_N_byteOf_0 rfl ?_
  refine so_bipush d_N_byteOf_1 rfl ?_
  refine so_bipush d_N_byteOf_3 rfl ?_
  refine so_iload_n d_N_byteOf_5 rfl ?_
  refine so_isub d_N_byteOf_6 ?_
  refine so_imul d_N_byteOf_7 ?_
  refine so_lushr d_N_byteOf_8 ?_
  refine so_l2i d_N_byteOf_9 ?_
  refine so_sipush d_N_byteOf_10 rfl ?_
  refine so_iand d_N_byteOf_13 ?_
  exact so_iret d_N_byteOf_14 rfl
theorem d_N_lengthOf_0 : decode prog_3_method_3_code 0 = .ok (.iconst 0, 1) := by decide +kernel
theorem d_N_lengthOf_1 : decode prog_3_method_3_code 1 = .ok (.istore_n 2, 1) := by decide +kernel
theorem d_N_lengthOf_2 : decode prog_3_method_3_code 2 = .ok (.iload_n 2, 1) := by decide +kernel
theorem d_N_lengthOf_3 : decode prog_3_method_3_code 3 = .ok (.bipush 7, 2) := by decide +kernel
theorem d_N_lengthOf_5 : decode prog_3_method_3_code 5 = .ok (.if_icmp .ge 17, 3) := by decide +kernel
theorem d_N_lengthOf_8 : decode prog_3_method_3_code 8 = .ok (.lload_n 0, 1) := by decide +kernel
theorem d_N_lengthOf_9 : decode prog_3_method_3_code 9 = .ok (.iload_n 2, 1) := by decide +kernel
theorem d_N_lengthOf_10 : decode prog_3_method_3_code 10 = .ok (.invokestatic 23, 3) := by decide +kernel
theorem d_N_lengthOf_13 : decode prog_3_method_3_code 13 = .ok (.ifCond .eq 9, 3) := by decide +kernel
theorem d_N_lengthOf_16 : decode prog_3_method_3_code 16 = .ok (.iinc 2 1, 3) := by decide +kernel
theorem d_N_lengthOf_19 : decode prog_3_method_3_code 19 = .ok (.goto (-17), 3) := by decide +kernel
theorem d_N_lengthOf_22 : decode prog_3_method_3_code 22 = .ok (.iload_n 2, 1) := by decide +kernel
theorem d_N_lengthOf_23 : decode prog_3_method_3_code 23 = .ok (.ireturn, 1) := by decide +kernel
def k_N_lengthOf_0 (G : oG) (Post : oP) : oK := o_iconst 0 <| o_istore 2 <| o_jmp G m_N_lengthOf Post 2 [0, 2]
theorem s_N_lengthOf_0 {G : oG} {Post : oP} : oS G m_N_lengthOf Post 0 (k_N_lengthOf_0 G Post) := by
  unfold k_N_lengthOf_0
  refine so_iconst d_N_lengthOf_0 rfl ?_
  refine so_istore_n d_N_lengthOf_1 rfl (by decide) ?_
  exact so_jmp
def k_N_lengthOf_2 (G : oG) (Post : oP) : oK := o_iload 2 <| o_iconst 7 <| o_icmpge (o_iload 2 <| o_iret Post) (o_lload 0 <| o_iload 2 <| o_callS G m_N_byteOf 2 <| o_jmp G m_N_lengthOf Post 13 [0, 2])
theorem s_N_lengthOf_2 {G : oG} {Post : oP} : oS G m_N_lengthOf Post 2 (k_N_lengthOf_2 G Post) := by
  unfold k_N_lengthOf_2
  refine so_iload_n d_N_lengthOf_2 rfl ?_
  refine so_bipush d_N_lengthOf_3 rfl ?_
  refine so_icmpge d_N_lengthOf_5 (tgt := 22) (by decide) ?_ ?_
  · refine so_iload_n d_N_lengthOf_22 rfl ?_
    exact so_iret d_N_lengthOf_23 rfl
  · refine so_lload_n d_N_lengthOf_8 rfl ?_
    refine so_iload_n d_N_lengthOf_9 rfl ?_
    refine so_callS f_N_byteOf w_498 w_497 (by decide) (by decide) d_N_lengthOf_10 ?_
    exact so_jmp
def k_N_lengthOf_13 (G : oG) (Post : oP) : oK := o_ifeq (o_iload 2 <| o_iret Post) (o_iinc 2 1 <| o_jmp G m_N_lengthOf Post 2 [0, 2])
theorem s_N_lengthOf_13 {G : oG} {Post : oP} : oS G m_N_lengthOf Post 13 (k_N_lengthOf_13 G Post) := by
  unfold k_N_lengthOf_13
  refine so_ifeq d_N_lengthOf_13 (tgt := 22) (by decide) ?_ ?_
  · refine so_iload_n d_N_lengthOf_22 rfl ?_
    exact so_iret d_N_lengthOf_23 rfl
  · refine so_iinc d_N_lengthOf_16 rfl (by decide) ?_
    refine so_goto d_N_lengthOf_19 (tgt := 2) (by decide) ?_
    exact so_jmp
theorem d_R_init_0 : decode prog_6_method_1_code 0 = .ok (.aload_n 0, 1) := by decide +kernel
theorem d_R_init_1 : decode prog_6_method_1_code 1 = .ok (.invokespecial 3, 3) := by decide +kernel
theorem d_R_init_4 : decode prog_6_method_1_code 4 = .ok (.aload_n 0, 1) := by decide +kernel
theorem d_R_init_5 : decode prog_6_method_1_code 5 = .ok (.iconst 4, 1) := by decide +kernel
theorem d_R_init_6 : decode prog_6_method_1_code 6 = .ok (.newarray .int, 2) := by decide +kernel
theorem d_R_init_8 : decode prog_6_method_1_code 8 = .ok (.putfield 9, 3) := by decide +kernel
theorem d_R_init_11 : decode prog_6_method_1_code 11 = .ok (.aload_n 0, 1) := by decide +kernel
theorem d_R_init_12 : decode prog_6_method_1_code 12 = .ok (.iconst 4, 1) := by decide +kernel
theorem d_R_init_13 : decode prog_6_method_1_code 13 = .ok (.newarray .int, 2) := by decide +kernel
theorem d_R_init_15 : decode prog_6_method_1_code 15 = .ok (.putfield 15, 3) := by decide +kernel
theorem d_R_init_18 : decode prog_6_method_1_code 18 = .ok (.aload_n 0, 1) := by decide +kernel
theorem d_R_init_19 : decode prog_6_method_1_code 19 = .ok (.iconst 0, 1) := by decide +kernel
theorem d_R_init_20 : decode prog_6_method_1_code 20 = .ok (.putfield 18, 3) := by decide +kernel
theorem d_R_init_23 : decode prog_6_method_1_code 23 = .ok (.return_, 1) := by decide +kernel
def k_R_init_0 (G : oG) (Post : oP) : oK := o_aload 0 <| o_objInit <| o_aload 0 <| o_iconst 4 <| o_newa 0 (.inl (fun _ => 0)) <| o_putfR 4 0 <| o_aload 0 <| o_iconst 4 <| o_newa 0 (.inl (fun _ => 0)) <| o_putfR 4 1 <| o_aload 0 <| o_iconst 0 <| o_putfI 4 2 <| o_vret Post
theorem s_R_init_0 {G : oG} {Post : oP} : oS G m_R_init Post 0 (k_R_init_0 G Post) := by
  unfold k_R_init_0
  refine so_aload_n d_R_init_0 rfl ?_
  refine so_objInit w_159 w_85 w_objcode (by decide) (by decide) d_R_init_1 ?_
  refine so_aload_n d_R_init_4 rfl ?_
  refine so_iconst d_R_init_5 rfl ?_
  refine so_newa (ty := .int) rfl w_104 (t := 0) rfl (fun _ q => by cases q) (by decide) rfl (fun _ _ => rfl) d_R_init_6 ?_
  refine so_putfRF cl_4 (k := 0) (by decide) (Or.inr ⟨_, rfl⟩) rfl rfl rfl w_160 d_R_init_8 ?_
  refine so_aload_n d_R_init_11 rfl ?_
  refine so_iconst d_R_init_12 rfl ?_
  refine so_newa (ty := .int) rfl w_104 (t := 0) rfl (fun _ q => by cases q) (by decide) rfl (fun _ _ => rfl) d_R_init_13 ?_
  refine so_putfRF cl_4 (k := 1) (by decide) (Or.inr ⟨_, rfl⟩) rfl rfl rfl w_161 d_R_init_15 ?_
  refine so_aload_n d_R_init_18 rfl ?_
  refine so_iconst d_R_init_19 rfl ?_
  refine so_putfI cl_4 (k := 2) (by decide) rfl rfl w_162 d_R_init_20 ?_
  exact so_vret d_R_init_23 rfl
theorem d_R_clear_0 : decode prog_6_method_2_code 0 = .ok (.aload_n 0, 1) := by decide +kernel
theorem d_R_clear_1 : decode prog_6_method_2_code 1 = .ok (.iconst 0, 1) := by decide +kernel
theorem d_R_clear_2 : decode prog_6_method_2_code 2 = .ok (.putfield 18, 3) := by decide +kernel
theorem d_R_clear_5 : decode prog_6_method_2_code 5 = .ok (.return_, 1) := by decide +kernel
def k_R_clear_0 (G : oG) (Post : oP) : oK := o_aload 0 <| o_iconst 0 <| o_putfI 4 2 <| o_vret Post
theorem s_R_clear_0 {G : oG} {Post : oP} : oS G m_R_clear Post 0 (k_R_clear_0 G Post) := by
  unfold k_R_clear_0
  refine so_aload_n d_R_clear_0 rfl ?_
  refine so_iconst d_R_clear_1 rfl ?_
  refine so_putfI cl_4 (k := 2) (by decide) rfl rfl w_162 d_R_clear_2 ?_
  exact so_vret d_R_clear_5 rfl
theorem d_R_add_0 : decode prog_6_method_3_code 0 = .ok (.aload_n 0, 1) := by decide +kernel
theorem d_R_add_1 : decode prog_6_method_3_code 1 = .ok (.getfield 9, 3) := by decide +kernel
theorem d_R_add_4 : decode prog_6_method_3_code 4 = .ok (.aload_n 0, 1) := by decide +kernel
theorem d_R_add_5 : decode prog_6_method_3_code 5 = .ok (.getfield 18, 3) := by decide +kernel
theorem d_R_add_8 : decode prog_6_method_3_code 8 = .ok (.iload_n 1, 1) := by decide +kernel
theorem d_R_add_9 : decode prog_6_method_3_code 9 = .ok (.iastore, 1) := by decide +kernel
theorem d_R_add_10 : decode prog_6_method_3_code 10 = .ok (.aload_n 0, 1) := by decide +kernel
theorem d_R_add_11 : decode prog_6_method_3_code 11 = .ok (.getfield 15, 3) := by decide +kernel
theorem d_R_add_14 : decode prog_6_method_3_code 14 = .ok (.aload_n 0, 1) := by decide +kernel
theorem d_R_add_15 : decode prog_6_method_3_code 15 = .ok (.getfield 18, 3) := by decide +kernel
theorem d_R_add_18 : decode prog_6_method_3_code 18 = .ok (.iload_n 2, 1) := by decide +kernel
theorem d_R_add_19 : decode prog_6_method_3_code 19 = .ok (.iastore, 1) := by decide +kernel
theorem d_R_add_20 : decode prog_6_method_3_code 20 = .ok (.aload_n 0, 1) := by decide +kernel
theorem d_R_add_21 : decode prog_6_method_3_code 21 = .ok (.dup, 1) := by decide +kernel
theorem d_R_add_22 : decode prog_6_method_3_code 22 = .ok (.getfield 18, 3) := by decide +kernel
theorem d_R_add_25 : decode prog_6_method_3_code 25 = .ok (.iconst 1, 1) := by decide +kernel
theorem d_R_add_26 : decode prog_6_method_3_code 26 = .ok (.iadd, 1) := by decide +kernel
theorem d_R_add_27 : decode prog_6_method_3_code 27 = .ok (.putfield 18, 3) := by decide +kernel
theorem d_R_add_30 : decode prog_6_method_3_code 30 = .ok (.return_, 1) := by decide +kernel
def k_R_add_0 (G : oG) (Post : oP) : oK := o_aload 0 <| o_getf 4 0 <| o_aload 0 <| o_getf 4 2 <| o_iload 1 <| o_iast <| o_aload 0 <| o_getf 4 1 <| o_aload 0 <| o_getf 4 2 <| o_iload 2 <| o_iast <| o_aload 0 <| o_dup <| o_getf 4 2 <| o_iconst 1 <| o_iadd <| o_putfI 4 2 <| o_vret Post
theorem s_R_add_0 {G : oG} {Post : oP} : oS G m_R_add Post 0 (k_R_add_0 G Post) := by
  unfold k_R_add_0
  refine so_aload_n d_R_add_0 rfl ?_
  refine so_getf cl_4 (k := 0) (by decide) w_160 d_R_add_1 ?_
  refine so_aload_n d_R_add_4 rfl ?_
  refine so_getf cl_4 (k := 2) (by decide) w_162 d_R_add_5 ?_
  refine so_iload_n d_R_add_8 rfl ?_
  refine so_iast d_R_add_9 ?_
  refine so_aload_n d_R_add_10 rfl ?_
  refine so_getf cl_4 (k := 1) (by decide) w_161 d_R_add_11 ?_
  refine so_aload_n d_R_add_14 rfl ?_
  refine so_getf cl_4 (k := 2) (by decide) w_162 d_R_add_15 ?_
  refine so_iload_n d_R_add_18 rfl ?_
  refine so_iast d_R_add_19 ?_
  refine so_aload_n d_R_add_20 rfl ?_
  refine so_dup d_R_add_21 ?_
  refine so_getf cl_4 (k := 2) (by decide) w_162 d_R_add_22 ?_
  refine so_iconst d_R_add_25 rfl ?_
  refine so_iadd d_R_add_26 ?_
  refine so_putfI cl_4 (k := 2) (by decide) rfl rfl w_162 d_R_add_27 ?_
  exact so_vret d_R_add_30 rfl
theorem d_R_setOnly_0 : decode prog_6_method_4_code 0 = .ok (.aload_n 0, 1) := by decide +kernel
theorem d_R_setOnly_1 : decode prog_6_method_4_code 1 = .ok (.invokevirtual 22, 3) := by decide +kernel
theorem d_R_setOnly_4 : decode prog_6_method_4_code 4 = .ok (.aload_n 0, 1) := by decide +kernel
theorem d_R_setOnly_5 : decode prog_6_method_4_code 5 = .ok (.iload_n 1, 1) := by decide +kernel
theorem d_R_setOnly_6 : decode prog_6_method_4_code 6 = .ok (.iload_n 2, 1) := by decide +kernel
theorem d_R_setOnly_7 : decode prog_6_method_4_code 7 = .ok (.invokevirtual 25, 3) := by decide +kernel
theorem d_R_setOnly_10 : decode prog_6_method_4_code 10 = .ok (.return_, 1) := by decide +kernel
def k_R_setOnly_0 (G : oG) (Post : oP) : oK := o_aload 0 <| o_callV G 4 m_R_clear 0 <| o_jmp G m_R_setOnly Post 4 [0, 1, 2]
theorem s_R_setOnly_0 {G : oG} {Post : oP} : oS G m_R_setOnly Post 0 (k_R_setOnly_0 G Post) := by
  unfold k_R_setOnly_0
  refine so_aload_n d_R_setOnly_0 rfl ?_
  refine so_callV cl_4 f_R_clear w_371 w_372 w_370 (by decide) (by decide) d_R_setOnly_1 ?_
  exact so_jmp
def k_R_setOnly_4 (G : oG) (Post : oP) : oK := o_aload 0 <| o_iload 1 <| o_iload 2 <| o_callV G 4 m_R_add 2 <| o_jmp G m_R_setOnly Post 10 []
theorem s_R_setOnly_4 {G : oG} {Post : oP} : oS G m_R_setOnly Post 4 (k_R_setOnly_4 G Post) := by
  unfold k_R_setOnly_4
  refine so_aload_n d_R_setOnly_4 rfl ?_
  refine so_iload_n d_R_setOnly_5 rfl ?_
  refine so_iload_n d_R_setOnly_6 rfl ?_
  refine so_callV cl_4 f_R_add w_375 w_376 w_374 (by decide) (by decide) d_R_setOnly_7 ?_
  exact so_jmp
def k_R_setOnly_10 (G : oG) (Post : oP) : oK := o_vret Post
theorem s_R_setOnly_10 {G : oG} {Post : oP} : oS G m_R_setOnly Post 10 (k_R_setOnly_10 G Post) := by
  unfold k_R_setOnly_10
  exact so_vret d_R_setOnly_10 rfl
theorem d_R_total_0 : decode prog_6_method_5_code 0 = .ok (.iconst 0, 1) := by decide +kernel
theorem d_R_total_1 : decode prog_6_method_5_code 1 = .ok (.istore_n 1, 1) := by decide +kernel
theorem d_R_total_2 : decode prog_6_method_5_code 2 = .ok (.iconst 0, 1) := by decide +kernel
theorem d_R_total_3 : decode prog_6_method_5_code 3 = .ok (.istore_n 2, 1) := by decide +kernel
theorem d_R_total_4 : decode prog_6_method_5_code 4 = .ok (.iload_n 2, 1) := by decide +kernel
theorem d_R_total_5 : decode prog_6_method_5_code 5 = .ok (.aload_n 0, 1) := by decide +kernel
theorem d_R_total_6 : decode prog_6_method_5_code 6 = .ok (.getfield 18, 3) := by decide +kernel
theorem d_R_total_9 : decode prog_6_method_5_code 9 = .ok (.if_icmp .ge 18, 3) := by decide +kernel
theorem d_R_total_12 : decode prog_6_method_5_code 12 = .ok (.iload_n 1, 1) := by decide +kernel
theorem d_R_total_13 : decode prog_6_method_5_code 13 = .ok (.aload_n 0, 1) := by decide +kernel
theorem d_R_total_14 : decode prog_6_method_5_code 14 = .ok (.getfield 15, 3) := by decide +kernel
theorem d_R_total_17 : decode prog_6_method_5_code 17 = .ok (.iload_n 2, 1) := by decide +kernel
theorem d_R_total_18 : decode prog_6_method_5_code 18 = .ok (.iaload, 1) := by decide +kernel
theorem d_R_total_19 : decode prog_6_method_5_code 19 = .ok (.iadd, 1) := by decide +kernel
theorem d_R_total_20 : decode prog_6_method_5_code 20 = .ok (.istore_n 1, 1) := by decide +kernel
theorem d_R_total_21 : decode prog_6_method_5_code 21 = .ok (.iinc 2 1, 3) := by decide +kernel
theorem d_R_total_24 : decode prog_6_method_5_code 24 = .ok (.goto (-20), 3) := by decide +kernel
theorem d_R_total_27 : decode prog_6_method_5_code 27 = .ok (.iload_n 1, 1) := by decide +kernel
theorem d_R_total_28 : decode prog_6_method_5_code 28 = .ok (.ireturn, 1) := by decide +kernel
def k_R_total_0 (G : oG) (Post : oP) : oK := o_iconst 0 <| o_istore 1 <| o_iconst 0 <| o_istore 2 <| o_jmp G m_R_total Post 4 [0, 1, 2]
theorem s_R_total_0 {G : oG} {Post : oP} : oS G m_R_total Post 0 (k_R_total_0 G Post) := by
  unfold k_R_total_0
  refine so_iconst d_R_total_0 rfl ?_
  refine so_istore_n d_R_total_1 rfl (by decide) ?_
  refine so_iconst d_R_total_2 rfl ?_
  refine so_istore_n d_R_total_3 rfl (by decide) ?_
  exact so_jmp
def k_R_total_4 (G : oG) (Post : oP) : oK := o_iload 2 <| o_aload 0 <| o_getf 4 2 <| o_icmpge (o_iload 1 <| o_iret Post) (o_iload 1 <| o_aload 0 <| o_getf 4 1 <| o_iload 2 <| o_iald G <| o_iadd <| o_istore 1 <| o_iinc 2 1 <| o_jmp G m_R_total Post 4 [0, 1, 2])
theorem s_R_total_4 {G : oG} {Post : oP} : oS G m_R_total Post 4 (k_R_total_4 G Post) := by
  unfold k_R_total_4
  refine so_iload_n d_R_total_4 rfl ?_
  refine so_aload_n d_R_total_5 rfl ?_
  refine so_getf cl_4 (k := 2) (by decide) w_162 d_R_total_6 ?_
  refine so_icmpge d_R_total_9 (tgt := 27) (by decide) ?_ ?_
  · refine so_iload_n d_R_total_27 rfl ?_
    exact so_iret d_R_total_28 rfl
  · refine so_iload_n d_R_total_12 rfl ?_
    refine so_aload_n d_R_total_13 rfl ?_
    refine so_getf cl_4 (k := 1) (by decide) w_161 d_R_total_14 ?_
    refine so_iload_n d_R_total_17 rfl ?_
    refine so_iald d_R_total_18 ?_
    refine so_iadd d_R_total_19 ?_
    refine so_istore_n d_R_total_20 rfl (by decide) ?_
    refine so_iinc d_R_total_21 rfl (by decide) ?_
    refine so_goto d_R_total_24 (tgt := 4) (by decide) ?_
    exact so_jmp
theorem d_R_addressOf_0 : decode prog_6_method_6_code 0 = .ok (.iload_n 1, 1) := by decide +kernel
theorem d_R_addressOf_1 : decode prog_6_method_6_code 1 = .ok (.istore_n 2, 1) := by decide +kernel
theorem d_R_addressOf_2 : decode prog_6_method_6_code 2 = .ok (.iconst 0, 1) := by decide +kernel
theorem d_R_addressOf_3 : decode prog_6_method_6_code 3 = .ok (.istore_n 3, 1) := by decide +kernel
theorem d_R_addressOf_4 : decode prog_6_method_6_code 4 = .ok (.iload_n 3, 1) := by decide +kernel
theorem d_R_addressOf_5 : decode prog_6_method_6_code 5 = .ok (.aload_n 0, 1) := by decide +kernel
theorem d_R_addressOf_6 : decode prog_6_method_6_code 6 = .ok (.getfield 18, 3) := by decide +kernel
theorem d_R_addressOf_9 : decode prog_6_method_6_code 9 = .ok (.iconst 1, 1) := by decide +kernel
theorem d_R_addressOf_10 : decode prog_6_method_6_code 10 = .ok (.isub, 1) := by decide +kernel
theorem d_R_addressOf_11 : decode prog_6_method_6_code 11 = .ok (.if_icmp .ge 28, 3) := by decide +kernel
theorem d_R_addressOf_14 : decode prog_6_method_6_code 14 = .ok (.iload_n 2, 1) := by decide +kernel
theorem d_R_addressOf_15 : decode prog_6_method_6_code 15 = .ok (.aload_n 0, 1) := by decide +kernel
theorem d_R_addressOf_16 : decode prog_6_method_6_code 16 = .ok (.getfield 15, 3) := by decide +kernel
theorem d_R_addressOf_19 : decode prog_6_method_6_code 19 = .ok (.iload_n 3, 1) := by decide +kernel
theorem d_R_addressOf_20 : decode prog_6_method_6_code 20 = .ok (.iaload, 1) := by decide +kernel
theorem d_R_addressOf_21 : decode prog_6_method_6_code 21 = .ok (.if_icmp .lt 18, 3) := by decide +kernel
theorem d_R_addressOf_24 : decode prog_6_method_6_code 24 = .ok (.iload_n 2, 1) := by decide +kernel
theorem d_R_addressOf_25 : decode prog_6_method_6_code 25 = .ok (.aload_n 0, 1) := by decide +kernel
theorem d_R_addressOf_26 : decode prog_6_method_6_code 26 = .ok (.getfield 15, 3) := by decide +kernel
theorem d_R_addressOf_29 : decode prog_6_method_6_code 29 = .ok (.iload_n 3, 1) := by decide +kernel
theorem d_R_addressOf_30 : decode prog_6_method_6_code 30 = .ok (.iaload, 1) := by decide +kernel
theorem d_R_addressOf_31 : decode prog_6_method_6_code 31 = .ok (.isub, 1) := by decide +kernel
theorem d_R_addressOf_32 : decode prog_6_method_6_code 32 = .ok (.istore_n 2, 1) := by decide +kernel
theorem d_R_addressOf_33 : decode prog_6_method_6_code 33 = .ok (.iinc 3 1, 3) := by decide +kernel
theorem d_R_addressOf_36 : decode prog_6_method_6_code 36 = .ok (.goto (-32), 3) := by decide +kernel
theorem d_R_addressOf_39 : decode prog_6_method_6_code 39 = .ok (.aload_n 0, 1) := by decide +kernel
theorem d_R_addressOf_40 : decode prog_6_method_6_code 40 = .ok (.getfield 9, 3) := by decide +kernel
theorem d_R_addressOf_43 : decode prog_6_method_6_code 43 = .ok (.iload_n 3, 1) := by decide +kernel
theorem d_R_addressOf_44 : decode prog_6_method_6_code 44 = .ok (.iaload, 1) := by decide +kernel
theorem d_R_addressOf_45 : decode prog_6_method_6_code 45 = .ok (.iload_n 2, 1) := by decide +kernel
theorem d_R_addressOf_46 : decode prog_6_method_6_code 46 = .ok (.iadd, 1) := by decide +kernel
theorem d_R_addressOf_47 : decode prog_6_method_6_code 47 = .ok (.ireturn, 1) := by decide +kernel
def k_R_addressOf_0 (G : oG) (Post : oP) : oK := o_iload 1 <| o_istore 2 <| o_iconst 0 <| o_istore 3 <| o_jmp G m_R_addressOf Post 4 [0, 2, 3]
theorem s_R_addressOf_0 {G : oG} {Post : oP} : oS G m_R_addressOf Post 0 (k_R_addressOf_0 G Post) := by
  unfold k_R_addressOf_0
  refine so_iload_n d_R_addressOf_0 rfl ?_
  refine so_istore_n d_R_addressOf_1 rfl (by decide) ?_
  refine so_iconst d_R_addressOf_2 rfl ?_
  refine so_istore_n d_R_addressOf_3 rfl (by decide) ?_
  exact so_jmp
def k_R_addressOf_4 (G : oG) (Post : oP) : oK := o_iload 3 <| o_aload 0 <| o_getf 4 2 <| o_iconst 1 <| o_isub <| o_icmpge (o_aload 0 <| o_getf 4 0 <| o_iload 3 <| o_iald G <| o_iload 2 <| o_iadd <| o_iret Post) (o_iload 2 <| o_aload 0 <| o_getf 4 1 <| o_iload 3 <| o_iald G <| o_icmplt (o_aload 0 <| o_getf 4 0 <| o_iload 3 <| o_iald G <| o_iload 2 <| o_iadd <| o_iret Post) (o_iload 2 <| o_aload 0 <| o_getf 4 1 <| o_iload 3 <| o_iald G <| o_isub <| o_istore 2 <| o_iinc 3 1 <| o_jmp G m_R_addressOf Post 4 [0, 2, 3]))
theorem s_R_addressOf_4 {G : oG} {Post : oP} : oS G m_R_addressOf Post 4 (k_R_addressOf_4 G Post) := by
  unfold k_R_addressOf_4
  refine so_iload_n d_R_addressOf_4 rfl ?_
  refine so_aload_n d_R_addressOf_5 rfl ?_
  refine so_getf cl_4 (k := 2) (by decide) w_162 d_R_addressOf_6 ?_
  refine so_iconst d_R_addressOf_9 rfl ?_
  refine so_isub d_R_addressOf_10 ?_
  refine so_icmpge d_R_addressOf_11 (tgt := 39) (by decide) ?_ ?_
  · refine so_aload_n d_R_addressOf_39 rfl ?_
    refine so_getf cl_4 (k := 0) (by decide) w_160 d_R_addressOf_40 ?_
    refine so_iload_n d_R_addressOf_43 rfl ?_
    refine so_iald d_R_addressOf_44 ?_
    refine so_iload_n d_R_addressOf_45 rfl ?_
    refine so_iadd d_R_addressOf_46 ?_
    exact so_iret d_R_addressOf_47 rfl
  · refine so_iload_n d_R_addressOf_14 rfl ?_
    refine so_aload_n d_R_addressOf_15 rfl ?_
    refine so_getf cl_4 (k := 1) (by decide) w_161 d_R_addressOf_16 ?_
    refine so_iload_n d_R_addressOf_19 rfl ?_
    refine so_iald d_R_addressOf_20 ?_
    refine so_icmplt d_R_addressOf_21 (tgt := 39) (by decide) ?_ ?_
    · refine so_aload_n d_R_addressOf_39 rfl ?_
      refine so_getf cl_4 (k := 0) (by decide) w_160 d_R_addressOf_40 ?_
      refine so_iload_n d_R_addressOf_43 rfl ?_
      refine so_iald d_R_addressOf_44 ?_
      refine so_iload_n d_R_addressOf_45 rfl ?_
      refine so_iadd d_R_addressOf_46 ?_
      exact so_iret d_R_addressOf_47 rfl
    · refine so_iload_n d_R_addressOf_24 rfl ?_
      refine so_aload_n d_R_addressOf_25 rfl ?_
      refine so_getf cl_4 (k := 1) (by decide) w_161 d_R_addressOf_26 ?_
      refine so_iload_n d_R_addressOf_29 rfl ?_
      refine so_iald d_R_addressOf_30 ?_
      refine so_isub d_R_addressOf_31 ?_
      refine so_istore_n d_R_addressOf_32 rfl (by decide) ?_
      refine so_iinc d_R_addressOf_33 rfl (by decide) ?_
      refine so_goto d_R_addressOf_36 (tgt := 4) (by decide) ?_
      exact so_jmp
theorem d_F_init_0 : decode prog_7_method_1_code 0 = .ok (.aload_n 0, 1) := by decide +kernel
theorem d_F_init_1 : decode prog_7_method_1_code 1 = .ok (.invokespecial 3, 3) := by decide +kernel
theorem d_F_init_4 : decode prog_7_method_1_code 4 = .ok (.aload_n 0, 1) := by decide +kernel
theorem d_F_init_5 : decode prog_7_method_1_code 5 = .ok (.bipush 24, 2) := by decide +kernel
theorem d_F_init_7 : decode prog_7_method_1_code 7 = .ok (.newarray .int, 2) := by decide +kernel
theorem d_F_init_9 : decode prog_7_method_1_code 9 = .ok (.putfield 9, 3) := by decide +kernel
theorem d_F_init_12 : decode prog_7_method_1_code 12 = .ok (.aload_n 0, 1) := by decide +kernel
theorem d_F_init_13 : decode prog_7_method_1_code 13 = .ok (.iconst 0, 1) := by decide +kernel
theorem d_F_init_14 : decode prog_7_method_1_code 14 = .ok (.putfield 15, 3) := by decide +kernel
theorem d_F_init_17 : decode prog_7_method_1_code 17 = .ok (.return_, 1) := by decide +kernel
def k_F_init_0 (G : oG) (Post : oP) : oK := o_aload 0 <| o_objInit <| o_aload 0 <| o_iconst 24 <| o_newa 0 (.inl (fun _ => 0)) <| o_putfR 5 0 <| o_aload 0 <| o_iconst 0 <| o_putfI 5 1 <| o_vret Post
theorem s_F_init_0 {G : oG} {Post : oP} : oS G m_F_init Post 0 (k_F_init_0 G Post) := by
  unfold k_F_init_0
  refine so_aload_n d_F_init_0 rfl ?_
  refine so_objInit w_174 w_85 w_objcode (by decide) (by decide) d_F_init_1 ?_
  refine so_aload_n d_F_init_4 rfl ?_
  refine so_bipush d_F_init_5 rfl ?_
  refine so_newa (ty := .int) rfl w_104 (t := 0) rfl (fun _ q => by cases q) (by decide) rfl (fun _ _ => rfl) d_F_init_7 ?_
  refine so_putfRF cl_5 (k := 0) (by decide) (Or.inr ⟨_, rfl⟩) rfl rfl rfl w_175 d_F_init_9 ?_
  refine so_aload_n d_F_init_12 rfl ?_
  refine so_iconst d_F_init_13 rfl ?_
  refine so_putfI cl_5 (k := 1) (by decide) rfl rfl w_176 d_F_init_14 ?_
  exact so_vret d_F_init_17 rfl
theorem d_F_copyOut_0 : decode prog_7_method_2_code 0 = .ok (.iconst 0, 1) := by decide +kernel
theorem d_F_copyOut_1 : decode prog_7_method_2_code 1 = .ok (.istore 4, 2) := by decide +kernel
theorem d_F_copyOut_3 : decode prog_7_method_2_code 3 = .ok (.iload 4, 2) := by decide +kernel
theorem d_F_copyOut_5 : decode prog_7_method_2_code 5 = .ok (.iload_n 3, 1) := by decide +kernel
theorem d_F_copyOut_6 : decode prog_7_method_2_code 6 = .ok (.if_icmp .ge 22, 3) := by decide +kernel
theorem d_F_copyOut_9 : decode prog_7_method_2_code 9 = .ok (.aload_n 2, 1) := by decide +kernel
theorem d_F_copyOut_10 : decode prog_7_method_2_code 10 = .ok (.iload 4, 2) := by decide +kernel
theorem d_F_copyOut_12 : decode prog_7_method_2_code 12 = .ok (.aload_n 0, 1) := by decide +kernel
theorem d_F_copyOut_13 : decode prog_7_method_2_code 13 = .ok (.getfield 9, 3) := by decide +kernel
theorem d_F_copyOut_16 : decode prog_7_method_2_code 16 = .ok (.iload_n 1, 1) := by decide +kernel
theorem d_F_copyOut_17 : decode prog_7_method_2_code 17 = .ok (.iload 4, 2) := by decide +kernel
theorem d_F_copyOut_19 : decode prog_7_method_2_code 19 = .ok (.iadd, 1) := by decide +kernel
theorem d_F_copyOut_20 : decode prog_7_method_2_code 20 = .ok (.iaload, 1) := by decide +kernel
theorem d_F_copyOut_21 : decode prog_7_method_2_code 21 = .ok (.iastore, 1) := by decide +kernel
theorem d_F_copyOut_22 : decode prog_7_method_2_code 22 = .ok (.iinc 4 1, 3) := by decide +kernel
theorem d_F_copyOut_25 : decode prog_7_method_2_code 25 = .ok (.goto (-22), 3) := by decide +kernel
theorem d_F_copyOut_28 : decode prog_7_method_2_code 28 = .ok (.return_, 1) := by decide +kernel
def k_F_copyOut_0 (G : oG) (Post : oP) : oK := o_iconst 0 <| o_istore 4 <| o_jmp G m_F_copyOut Post 3 [0, 1, 2, 3, 4]
theorem s_F_copyOut_0 {G : oG} {Post : oP} : oS G m_F_copyOut Post 0 (k_F_copyOut_0 G Post) := by
  unfold k_F_copyOut_0
  refine so_iconst d_F_copyOut_0 rfl ?_
  refine so_istore d_F_copyOut_1 (by decide) ?_
  exact so_jmp
def k_F_copyOut_3 (G : oG) (Post : oP) : oK := o_iload 4 <| o_iload 3 <| o_icmpge (o_vret Post) (o_aload 2 <| o_iload 4 <| o_aload 0 <| o_getf 5 0 <| o_iload 1 <| o_iload 4 <| o_iadd <| o_iald G <| o_iast <| o_iinc 4 1 <| o_jmp G m_F_copyOut Post 3 [0, 1, 2, 3, 4])
theorem s_F_copyOut_3 {G : oG} {Post : oP} : oS G m_F_copyOut Post 3 (k_F_copyOut_3 G Post) := by
  unfold k_F_copyOut_3
  refine so_iload d_F_copyOut_3 ?_
  refine so_iload_n d_F_copyOut_5 rfl ?_
  refine so_icmpge d_F_copyOut_6 (tgt := 28) (by decide) ?_ ?_
  · exact so_vret d_F_copyOut_28 rfl
  · refine so_aload_n d_F_copyOut_9 rfl ?_
    refine so_iload d_F_copyOut_10 ?_
    refine so_aload_n d_F_copyOut_12 rfl ?_
    refine so_getf cl_5 (k := 0) (by decide) w_175 d_F_copyOut_13 ?_
    refine so_iload_n d_F_copyOut_16 rfl ?_
    refine so_iload d_F_copyOut_17 ?_
    refine so_iadd d_F_copyOut_19 ?_
    refine so_iald d_F_copyOut_20 ?_
    refine so_iast d_F_copyOut_21 ?_
    refine so_iinc d_F_copyOut_22 rfl (by decide) ?_
    refine so_goto d_F_copyOut_25 (tgt := 3) (by decide) ?_
    exact so_jmp
theorem d_F_putIn_0 : decode prog_7_method_3_code 0 = .ok (.aload_n 0, 1) := by decide +kernel
theorem d_F_putIn_1 : decode prog_7_method_3_code 1 = .ok (.getfield 15, 3) := by decide +kernel
theorem d_F_putIn_4 : decode prog_7_method_3_code 4 = .ok (.istore 4, 2) := by decide +kernel
theorem d_F_putIn_6 : decode prog_7_method_3_code 6 = .ok (.iload 4, 2) := by decide +kernel
theorem d_F_putIn_8 : decode prog_7_method_3_code 8 = .ok (.iload_n 1, 1) := by decide +kernel
theorem d_F_putIn_9 : decode prog_7_method_3_code 9 = .ok (.if_icmp .ge 17, 3) := by decide +kernel
theorem d_F_putIn_12 : decode prog_7_method_3_code 12 = .ok (.aload_n 0, 1) := by decide +kernel
theorem d_F_putIn_13 : decode prog_7_method_3_code 13 = .ok (.getfield 9, 3) := by decide +kernel
theorem d_F_putIn_16 : decode prog_7_method_3_code 16 = .ok (.iload 4, 2) := by decide +kernel
theorem d_F_putIn_18 : decode prog_7_method_3_code 18 = .ok (.iconst 0, 1) := by decide +kernel
theorem d_F_putIn_19 : decode prog_7_method_3_code 19 = .ok (.iastore, 1) := by decide +kernel
theorem d_F_putIn_20 : decode prog_7_method_3_code 20 = .ok (.iinc 4 1, 3) := by decide +kernel
theorem d_F_putIn_23 : decode prog_7_method_3_code 23 = .ok (.goto (-17), 3) := by decide +kernel
theorem d_F_putIn_26 : decode prog_7_method_3_code 26 = .ok (.iconst 0, 1) := by decide +kernel
theorem d_F_putIn_27 : decode prog_7_method_3_code 27 = .ok (.istore 4, 2) := by decide +kernel
theorem d_F_putIn_29 : decode prog_7_method_3_code 29 = .ok (.iload 4, 2) := by decide +kernel
theorem d_F_putIn_31 : decode prog_7_method_3_code 31 = .ok (.iload_n 3, 1) := by decide +kernel
theorem d_F_putIn_32 : decode prog_7_method_3_code 32 = .ok (.if_icmp .ge 22, 3) := by decide +kernel
theorem d_F_putIn_35 : decode prog_7_method_3_code 35 = .ok (.aload_n 0, 1) := by decide +kernel
theorem d_F_putIn_36 : decode prog_7_method_3_code 36 = .ok (.getfield 9, 3) := by decide +kernel
theorem d_F_putIn_39 : decode prog_7_method_3_code 39 = .ok (.iload_n 1, 1) := by decide +kernel
theorem d_F_putIn_40 : decode prog_7_method_3_code 40 = .ok (.iload 4, 2) := by decide +kernel
theorem d_F_putIn_42 : decode prog_7_method_3_code 42 = .ok (.iadd, 1) := by decide +kernel
theorem d_F_putIn_43 : decode prog_7_method_3_code 43 = .ok (.aload_n 2, 1) := by decide +kernel
theorem d_F_putIn_44 : decode prog_7_method_3_code 44 = .ok (.iload 4, 2) := by decide +kernel
theorem d_F_putIn_46 : decode prog_7_method_3_code 46 = .ok (.iaload, 1) := by decide +kernel
theorem d_F_putIn_47 : decode prog_7_method_3_code 47 = .ok (.iastore, 1) := by decide +kernel
theorem d_F_putIn_48 : decode prog_7_method_3_code 48 = .ok (.iinc 4 1, 3) := by decide +kernel
theorem d_F_putIn_51 : decode prog_7_method_3_code 51 = .ok (.goto (-22), 3) := by decide +kernel
theorem d_F_putIn_54 : decode prog_7_method_3_code 54 = .ok (.aload_n 0, 1) := by decide +kernel
theorem d_F_putIn_55 : decode prog_7_method_3_code 55 = .ok (.aload_n 0, 1) := by decide +kernel
theorem d_F_putIn_56 : decode prog_7_method_3_code 56 = .ok (.getfield 15, 3) := by decide +kernel
theorem d_F_putIn_59 : decode prog_7_method_3_code 59 = .ok (.iload_n 1, 1) := by decide +kernel
theorem d_F_putIn_60 : decode prog_7_method_3_code 60 = .ok (.iload_n 3, 1) := by decide +kernel
theorem d_F_putIn_61 : decode prog_7_method_3_code 61 = .ok (.iadd, 1) := by decide +kernel
theorem d_F_putIn_62 : decode prog_7_method_3_code 62 = .ok (.invokestatic 19, 3) := by decide +kernel
theorem d_F_putIn_65 : decode prog_7_method_3_code 65 = .ok (.putfield 15, 3) := by decide +kernel
theorem d_F_putIn_68 : decode prog_7_method_3_code 68 = .ok (.return_, 1) := by decide +kernel
def k_F_putIn_0 (G : oG) (Post : oP) : oK := o_aload 0 <| o_getf 5 1 <| o_istore 4 <| o_jmp G m_F_putIn Post 6 [0, 1, 2, 3, 4]
theorem s_F_putIn_0 {G : oG} {Post : oP} : oS G m_F_putIn Post 0 (k_F_putIn_0 G Post) := by
  unfold k_F_putIn_0
  refine so_aload_n d_F_putIn_0 rfl ?_
  refine so_getf cl_5 (k := 1) (by decide) w_176 d_F_putIn_1 ?_
  refine so_istore d_F_putIn_4 (by decide) ?_
  exact so_jmp
def k_F_putIn_6 (G : oG) (Post : oP) : oK := o_iload 4 <| o_iload 1 <| o_icmpge (o_iconst 0 <| o_istore 4 <| o_jmp G m_F_putIn Post 29 [0, 1, 2, 3, 4]) (o_aload 0 <| o_getf 5 0 <| o_iload 4 <| o_iconst 0 <| o_iast <| o_iinc 4 1 <| o_jmp G m_F_putIn Post 6 [0, 1, 2, 3, 4])
theorem s_F_putIn_6 {G : oG} {Post : oP} : oS G m_F_putIn Post 6 (k_F_putIn_6 G Post) := by
  unfold k_F_putIn_6
  refine so_iload d_F_putIn_6 ?_
  refine so_iload_n d_F_putIn_8 rfl ?_
  refine so_icmpge d_F_putIn_9 (tgt := 26) (by decide) ?_ ?_
  · refine so_iconst d_F_putIn_26 rfl ?_
    refine so_istore d_F_putIn_27 (by decide) ?_
    exact so_jmp
  · refine so_aload_n d_F_putIn_12 rfl ?_
    refine so_getf cl_5 (k := 0) (by decide) w_175 d_F_putIn_13 ?_
    refine so_iload d_F_putIn_16 ?_
    refine so_iconst d_F_putIn_18 rfl ?_
    refine so_iast d_F_putIn_19 ?_
    refine so_iinc d_F_putIn_20 rfl (by decide) ?_
    refine so_goto d_F_putIn_23 (tgt := 6) (by decide) ?_
    exact so_jmp
def k_F_putIn_29 (G : oG) (Post : oP) : oK := o_iload 4 <| o_iload 3 <| o_icmpge (o_aload 0 <| o_aload 0 <| o_getf 5 1 <| o_iload 1 <| o_iload 3 <| o_iadd <| o_mmax <| o_putfI 5 1 <| o_vret Post) (o_aload 0 <| o_getf 5 0 <| o_iload 1 <| o_iload 4 <| o_iadd <| o_aload 2 <| o_iload 4 <| o_iald G <| o_iast <| o_iinc 4 1 <| o_jmp G m_F_putIn Post 29 [0, 1, 2, 3, 4])
theorem s_F_putIn_29 {G : oG} {Post : oP} : oS G m_F_putIn Post 29 (k_F_putIn_29 G Post) := by
  unfold k_F_putIn_29
  refine so_iload d_F_putIn_29 ?_
  refine so_iload_n d_F_putIn_31 rfl ?_
  refine so_icmpge d_F_putIn_32 (tgt := 54) (by decide) ?_ ?_
  · refine so_aload_n d_F_putIn_54 rfl ?_
    refine so_aload_n d_F_putIn_55 rfl ?_
    refine so_getf cl_5 (k := 1) (by decide) w_176 d_F_putIn_56 ?_
    refine so_iload_n d_F_putIn_59 rfl ?_
    refine so_iload_n d_F_putIn_60 rfl ?_
    refine so_iadd d_F_putIn_61 ?_
    refine so_mmax w_453 w_410 w_78 w_mathmax (by decide) (by decide) d_F_putIn_62 ?_
    refine so_putfI cl_5 (k := 1) (by decide) rfl rfl w_176 d_F_putIn_65 ?_
    exact so_vret d_F_putIn_68 rfl
  · refine so_aload_n d_F_putIn_35 rfl ?_
    refine so_getf cl_5 (k := 0) (by decide) w_175 d_F_putIn_36 ?_
    refine so_iload_n d_F_putIn_39 rfl ?_
    refine so_iload d_F_putIn_40 ?_
    refine so_iadd d_F_putIn_42 ?_
    refine so_aload_n d_F_putIn_43 rfl ?_
    refine so_iload d_F_putIn_44 ?_
    refine so_iald d_F_putIn_46 ?_
    refine so_iast d_F_putIn_47 ?_
    refine so_iinc d_F_putIn_48 rfl (by decide) ?_
    refine so_goto d_F_putIn_51 (tgt := 29) (by decide) ?_
    exact so_jmp
theorem d_P_init_0 : decode prog_5_method_1_code 0 = .ok (.aload_n 0, 1) := by decide +kernel
theorem d_P_init_1 : decode prog_5_method_1_code 1 = .ok (.invokespecial 3, 3) := by decide +kernel
theorem d_P_init_4 : decode prog_5_method_1_code 4 = .ok (.aload_n 0, 1) := by decide +kernel
theorem d_P_init_5 : decode prog_5_method_1_code 5 = .ok (.bipush 8, 2) := by decide +kernel
theorem d_P_init_7 : decode prog_5_method_1_code 7 = .ok (.newarray .int, 2) := by decide +kernel
theorem d_P_init_9 : decode prog_5_method_1_code 9 = .ok (.putfield 9, 3) := by decide +kernel
theorem d_P_init_12 : decode prog_5_method_1_code 12 = .ok (.aload_n 0, 1) := by decide +kernel
theorem d_P_init_13 : decode prog_5_method_1_code 13 = .ok (.iconst 0, 1) := by decide +kernel
theorem d_P_init_14 : decode prog_5_method_1_code 14 = .ok (.putfield 15, 3) := by decide +kernel
theorem d_P_init_17 : decode prog_5_method_1_code 17 = .ok (.return_, 1) := by decide +kernel
def k_P_init_0 (G : oG) (Post : oP) : oK := o_aload 0 <| o_objInit <| o_aload 0 <| o_iconst 8 <| o_newa 0 (.inl (fun _ => 0)) <| o_putfR 3 0 <| o_aload 0 <| o_iconst 0 <| o_putfI 3 1 <| o_vret Post
theorem s_P_init_0 {G : oG} {Post : oP} : oS G m_P_init Post 0 (k_P_init_0 G Post) := by
  unfold k_P_init_0
  refine so_aload_n d_P_init_0 rfl ?_
  refine so_objInit w_187 w_85 w_objcode (by decide) (by decide) d_P_init_1 ?_
  refine so_aload_n d_P_init_4 rfl ?_
  refine so_bipush d_P_init_5 rfl ?_
  refine so_newa (ty := .int) rfl w_104 (t := 0) rfl (fun _ q => by cases q) (by decide) rfl (fun _ _ => rfl) d_P_init_7 ?_
  refine so_putfRF cl_3 (k := 0) (by decide) (Or.inr ⟨_, rfl⟩) rfl rfl rfl w_188 d_P_init_9 ?_
  refine so_aload_n d_P_init_12 rfl ?_
  refine so_iconst d_P_init_13 rfl ?_
  refine so_putfI cl_3 (k := 1) (by decide) rfl rfl w_189 d_P_init_14 ?_
  exact so_vret d_P_init_17 rfl
theorem d_P_takeOut_0 : decode prog_5_method_2_code 0 = .ok (.iconst 0, 1) := by decide +kernel
theorem d_P_takeOut_1 : decode prog_5_method_2_code 1 = .ok (.istore_n 3, 1) := by decide +kernel
theorem d_P_takeOut_2 : decode prog_5_method_2_code 2 = .ok (.iload_n 3, 1) := by decide +kernel
theorem d_P_takeOut_3 : decode prog_5_method_2_code 3 = .ok (.iload_n 2, 1) := by decide +kernel
theorem d_P_takeOut_4 : decode prog_5_method_2_code 4 = .ok (.if_icmp .ge 18, 3) := by decide +kernel
theorem d_P_takeOut_7 : decode prog_5_method_2_code 7 = .ok (.aload_n 1, 1) := by decide +kernel
theorem d_P_takeOut_8 : decode prog_5_method_2_code 8 = .ok (.iload_n 3, 1) := by decide +kernel
theorem d_P_takeOut_9 : decode prog_5_method_2_code 9 = .ok (.aload_n 0, 1) := by decide +kernel
theorem d_P_takeOut_10 : decode prog_5_method_2_code 10 = .ok (.getfield 9, 3) := by decide +kernel
theorem d_P_takeOut_13 : decode prog_5_method_2_code 13 = .ok (.iload_n 3, 1) := by decide +kernel
theorem d_P_takeOut_14 : decode prog_5_method_2_code 14 = .ok (.iaload, 1) := by decide +kernel
theorem d_P_takeOut_15 : decode prog_5_method_2_code 15 = .ok (.iastore, 1) := by decide +kernel
theorem d_P_takeOut_16 : decode prog_5_method_2_code 16 = .ok (.iinc 3 1, 3) := by decide +kernel
theorem d_P_takeOut_19 : decode prog_5_method_2_code 19 = .ok (.goto (-17), 3) := by decide +kernel
theorem d_P_takeOut_22 : decode prog_5_method_2_code 22 = .ok (.aload_n 0, 1) := by decide +kernel
theorem d_P_takeOut_23 : decode prog_5_method_2_code 23 = .ok (.dup, 1) := by decide +kernel
theorem d_P_takeOut_24 : decode prog_5_method_2_code 24 = .ok (.getfield 15, 3) := by decide +kernel
theorem d_P_takeOut_27 : decode prog_5_method_2_code 27 = .ok (.iload_n 2, 1) := by decide +kernel
theorem d_P_takeOut_28 : decode prog_5_method_2_code 28 = .ok (.isub, 1) := by decide +kernel
theorem d_P_takeOut_29 : decode prog_5_method_2_code 29 = .ok (.putfield 15, 3) := by decide +kernel
theorem d_P_takeOut_32 : decode prog_5_method_2_code 32 = .ok (.iconst 0, 1) := by decide +kernel
theorem d_P_takeOut_33 : decode prog_5_method_2_code 33 = .ok (.istore_n 3, 1) := by decide +kernel
theorem d_P_takeOut_34 : decode prog_5_method_2_code 34 = .ok (.iload_n 3, 1) := by decide +kernel
theorem d_P_takeOut_35 : decode prog_5_method_2_code 35 = .ok (.aload_n 0, 1) := by decide +kernel
theorem d_P_takeOut_36 : decode prog_5_method_2_code 36 = .ok (.getfield 15, 3) := by decide +kernel
theorem d_P_takeOut_39 : decode prog_5_method_2_code 39 = .ok (.if_icmp .ge 23, 3) := by decide +kernel
theorem d_P_takeOut_42 : decode prog_5_method_2_code 42 = .ok (.aload_n 0, 1) := by decide +kernel
theorem d_P_takeOut_43 : decode prog_5_method_2_code 43 = .ok (.getfield 9, 3) := by decide +kernel
theorem d_P_takeOut_46 : decode prog_5_method_2_code 46 = .ok (.iload_n 3, 1) := by decide +kernel
theorem d_P_takeOut_47 : decode prog_5_method_2_code 47 = .ok (.aload_n 0, 1) := by decide +kernel
theorem d_P_takeOut_48 : decode prog_5_method_2_code 48 = .ok (.getfield 9, 3) := by decide +kernel
theorem d_P_takeOut_51 : decode prog_5_method_2_code 51 = .ok (.iload_n 3, 1) := by decide +kernel
theorem d_P_takeOut_52 : decode prog_5_method_2_code 52 = .ok (.iload_n 2, 1) := by decide +kernel
theorem d_P_takeOut_53 : decode prog_5_method_2_code 53 = .ok (.iadd, 1) := by decide +kernel
theorem d_P_takeOut_54 : decode prog_5_method_2_code 54 = .ok (.iaload, 1) := by decide +kernel
theorem d_P_takeOut_55 : decode prog_5_method_2_code 55 = .ok (.iastore, 1) := by decide +kernel
theorem d_P_takeOut_56 : decode prog_5_method_2_code 56 = .ok (.iinc 3 1, 3) := by decide +kernel
theorem d_P_takeOut_59 : decode prog_5_method_2_code 59 = .ok (.goto (-25), 3) := by decide +kernel
theorem d_P_takeOut_62 : decode prog_5_method_2_code 62 = .ok (.return_, 1) := by decide +kernel
def k_P_takeOut_0 (G : oG) (Post : oP) : oK := o_iconst 0 <| o_istore 3 <| o_jmp G m_P_takeOut Post 2 [0, 1, 2, 3]
theorem s_P_takeOut_0 {G : oG} {Post : oP} : oS G m_P_takeOut Post 0 (k_P_takeOut_0 G Post) := by
  unfold k_P_takeOut_0
  refine so_iconst d_P_takeOut_0 rfl ?_
  refine so_istore_n d_P_takeOut_1 rfl (by decide) ?_
  exact so_jmp
def k_P_takeOut_2 (G : oG) (Post : oP) : oK := o_iload 3 <| o_iload 2 <| o_icmpge (o_aload 0 <| o_dup <| o_getf 3 1 <| o_iload 2 <| o_isub <| o_putfI 3 1 <| o_iconst 0 <| o_istore 3 <| o_jmp G m_P_takeOut Post 34 [0, 2, 3]) (o_aload 1 <| o_iload 3 <| o_aload 0 <| o_getf 3 0 <| o_iload 3 <| o_iald G <| o_iast <| o_iinc 3 1 <| o_jmp G m_P_takeOut Post 2 [0, 1, 2, 3])
theorem s_P_takeOut_2 {G : oG} {Post : oP} : oS G m_P_takeOut Post 2 (k_P_takeOut_2 G Post) := by
  unfold k_P_takeOut_2
  refine so_iload_n d_P_takeOut_2 rfl ?_
  refine so_iload_n d_P_takeOut_3 rfl ?_
  refine so_icmpge d_P_takeOut_4 (tgt := 22) (by decide) ?_ ?_
  · refine so_aload_n d_P_takeOut_22 rfl ?_
    refine so_dup d_P_takeOut_23 ?_
    refine so_getf cl_3 (k := 1) (by decide) w_189 d_P_takeOut_24 ?_
    refine so_iload_n d_P_takeOut_27 rfl ?_
    refine so_isub d_P_takeOut_28 ?_
    refine so_putfI cl_3 (k := 1) (by decide) rfl rfl w_189 d_P_takeOut_29 ?_
    refine so_iconst d_P_takeOut_32 rfl ?_
    refine so_istore_n d_P_takeOut_33 rfl (by decide) ?_
    exact so_jmp
  · refine so_aload_n d_P_takeOut_7 rfl ?_
    refine so_iload_n d_P_takeOut_8 rfl ?_
    refine so_aload_n d_P_takeOut_9 rfl ?_
    refine so_getf cl_3 (k := 0) (by decide) w_188 d_P_takeOut_10 ?_
    refine so_iload_n d_P_takeOut_13 rfl ?_
    refine so_iald d_P_takeOut_14 ?_
    refine so_iast d_P_takeOut_15 ?_
    refine so_iinc d_P_takeOut_16 rfl (by decide) ?_
    refine so_goto d_P_takeOut_19 (tgt := 2) (by decide) ?_
    exact so_jmp
def k_P_takeOut_34 (G : oG) (Post : oP) : oK := o_iload 3 <| o_aload 0 <| o_getf 3 1 <| o_icmpge (o_vret Post) (o_aload 0 <| o_getf 3 0 <| o_iload 3 <| o_aload 0 <| o_getf 3 0 <| o_iload 3 <| o_iload 2 <| o_iadd <| o_iald G <| o_iast <| o_iinc 3 1 <| o_jmp G m_P_takeOut Post 34 [0, 2, 3])
theorem s_P_takeOut_34 {G : oG} {Post : oP} : oS G m_P_takeOut Post 34 (k_P_takeOut_34 G Post) := by
  unfold k_P_takeOut_34
  refine so_iload_n d_P_takeOut_34 rfl ?_
  refine so_aload_n d_P_takeOut_35 rfl ?_
  refine so_getf cl_3 (k := 1) (by decide) w_189 d_P_takeOut_36 ?_
  refine so_icmpge d_P_takeOut_39 (tgt := 62) (by decide) ?_ ?_
  · exact so_vret d_P_takeOut_62 rfl
  · refine so_aload_n d_P_takeOut_42 rfl ?_
    refine so_getf cl_3 (k := 0) (by decide) w_188 d_P_takeOut_43 ?_
    refine so_iload_n d_P_takeOut_46 rfl ?_
    refine so_aload_n d_P_takeOut_47 rfl ?_
    refine so_getf cl_3 (k := 0) (by decide) w_188 d_P_takeOut_48 ?_
    refine so_iload_n d_P_takeOut_51 rfl ?_
    refine so_iload_n d_P_takeOut_52 rfl ?_
    refine so_iadd d_P_takeOut_53 ?_
    refine so_iald d_P_takeOut_54 ?_
    refine so_iast d_P_takeOut_55 ?_
    refine so_iinc d_P_takeOut_56 rfl (by decide) ?_
    refine so_goto d_P_takeOut_59 (tgt := 34) (by decide) ?_
    exact so_jmp
theorem d_P_putIn_0 : decode prog_5_method_3_code 0 = .ok (.iconst 0, 1) := by decide +kernel
theorem d_P_putIn_1 : decode prog_5_method_3_code 1 = .ok (.istore_n 3, 1) := by decide +kernel
theorem d_P_putIn_2 : decode prog_5_method_3_code 2 = .ok (.iload_n 3, 1) := by decide +kernel
theorem d_P_putIn_3 : decode prog_5_method_3_code 3 = .ok (.iload_n 2, 1) := by decide +kernel
theorem d_P_putIn_4 : decode prog_5_method_3_code 4 = .ok (.if_icmp .ge 23, 3) := by decide +kernel
theorem d_P_putIn_7 : decode prog_5_method_3_code 7 = .ok (.aload_n 0, 1) := by decide +kernel
theorem d_P_putIn_8 : decode prog_5_method_3_code 8 = .ok (.getfield 9, 3) := by decide +kernel
theorem d_P_putIn_11 : decode prog_5_method_3_code 11 = .ok (.aload_n 0, 1) := by decide +kernel
theorem d_P_putIn_12 : decode prog_5_method_3_code 12 = .ok (.getfield 15, 3) := by decide +kernel
theorem d_P_putIn_15 : decode prog_5_method_3_code 15 = .ok (.iload_n 3, 1) := by decide +kernel
theorem d_P_putIn_16 : decode prog_5_method_3_code 16 = .ok (.iadd, 1) := by decide +kernel
theorem d_P_putIn_17 : decode prog_5_method_3_code 17 = .ok (.aload_n 1, 1) := by decide +kernel
theorem d_P_putIn_18 : decode prog_5_method_3_code 18 = .ok (.iload_n 3, 1) := by decide +kernel
theorem d_P_putIn_19 : decode prog_5_method_3_code 19 = .ok (.iaload, 1) := by decide +kernel
theorem d_P_putIn_20 : decode prog_5_method_3_code 20 = .ok (.iastore, 1) := by decide +kernel
theorem d_P_putIn_21 : decode prog_5_method_3_code 21 = .ok (.iinc 3 1, 3) := by decide +kernel
theorem d_P_putIn_24 : decode prog_5_method_3_code 24 = .ok (.goto (-22), 3) := by decide +kernel
theorem d_P_putIn_27 : decode prog_5_method_3_code 27 = .ok (.aload_n 0, 1) := by decide +kernel
theorem d_P_putIn_28 : decode prog_5_method_3_code 28 = .ok (.dup, 1) := by decide +kernel
theorem d_P_putIn_29 : decode prog_5_method_3_code 29 = .ok (.getfield 15, 3) := by decide +kernel
theorem d_P_putIn_32 : decode prog_5_method_3_code 32 = .ok (.iload_n 2, 1) := by decide +kernel
theorem d_P_putIn_33 : decode prog_5_method_3_code 33 = .ok (.iadd, 1) := by decide +kernel
theorem d_P_putIn_34 : decode prog_5_method_3_code 34 = .ok (.putfield 15, 3) := by decide +kernel
theorem d_P_putIn_37 : decode prog_5_method_3_code 37 = .ok (.return_, 1) := by decide +kernel
def k_P_putIn_0 (G : oG) (Post : oP) : oK := o_iconst 0 <| o_istore 3 <| o_jmp G m_P_putIn Post 2 [0, 1, 2, 3]
theorem s_P_putIn_0 {G : oG} {Post : oP} : oS G m_P_putIn Post 0 (k_P_putIn_0 G Post) := by
  unfold k_P_putIn_0
  refine so_iconst d_P_putIn_0 rfl ?_
  refine so_istore_n d_P_putIn_1 rfl (by decide) ?_
  exact so_jmp
def k_P_putIn_2 (G : oG) (Post : oP) : oK := o_iload 3 <| o_iload 2 <| o_icmpge (o_aload 0 <| o_dup <| o_getf 3 1 <| o_iload 2 <| o_iadd <| o_putfI 3 1 <| o_vret Post) (o_aload 0 <| o_getf 3 0 <| o_aload 0 <| o_getf 3 1 <| o_iload 3 <| o_iadd <| o_aload 1 <| o_iload 3 <| o_iald G <| o_iast <| o_iinc 3 1 <| o_jmp G m_P_putIn Post 2 [0, 1, 2, 3])
theorem s_P_putIn_2 {G : oG} {Post : oP} : oS G m_P_putIn Post 2 (k_P_putIn_2 G Post) := by
  unfold k_P_putIn_2
  refine so_iload_n d_P_putIn_2 rfl ?_
  refine so_iload_n d_P_putIn_3 rfl ?_
  refine so_icmpge d_P_putIn_4 (tgt := 27) (by decide) ?_ ?_
  · refine so_aload_n d_P_putIn_27 rfl ?_
    refine so_dup d_P_putIn_28 ?_
    refine so_getf cl_3 (k := 1) (by decide) w_189 d_P_putIn_29 ?_
    refine so_iload_n d_P_putIn_32 rfl ?_
    refine so_iadd d_P_putIn_33 ?_
    refine so_putfI cl_3 (k := 1) (by decide) rfl rfl w_189 d_P_putIn_34 ?_
    exact so_vret d_P_putIn_37 rfl
  · refine so_aload_n d_P_putIn_7 rfl ?_
    refine so_getf cl_3 (k := 0) (by decide) w_188 d_P_putIn_8 ?_
    refine so_aload_n d_P_putIn_11 rfl ?_
    refine so_getf cl_3 (k := 1) (by decide) w_189 d_P_putIn_12 ?_
    refine so_iload_n d_P_putIn_15 rfl ?_
    refine so_iadd d_P_putIn_16 ?_
    refine so_aload_n d_P_putIn_17 rfl ?_
    refine so_iload_n d_P_putIn_18 rfl ?_
    refine so_iald d_P_putIn_19 ?_
    refine so_iast d_P_putIn_20 ?_
    refine so_iinc d_P_putIn_21 rfl (by decide) ?_
    refine so_goto d_P_putIn_24 (tgt := 2) (by decide) ?_
    exact so_jmp
