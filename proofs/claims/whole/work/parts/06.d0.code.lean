/-! code in blocks, by program -/
theorem d_T_init_0 : decode prog_1_method_1_code 0 = .ok (.aload_n 0, 1) := by decide +kernel
theorem d_T_init_1 : decode prog_1_method_1_code 1 = .ok (.invokespecial 3, 3) := by decide +kernel
theorem d_T_init_4 : decode prog_1_method_1_code 4 = .ok (.aload_n 0, 1) := by decide +kernel
theorem d_T_init_5 : decode prog_1_method_1_code 5 = .ok (.new 9, 3) := by decide +kernel
theorem d_T_init_8 : decode prog_1_method_1_code 8 = .ok (.dup, 1) := by decide +kernel
theorem d_T_init_9 : decode prog_1_method_1_code 9 = .ok (.invokespecial 11, 3) := by decide +kernel
theorem d_T_init_12 : decode prog_1_method_1_code 12 = .ok (.putfield 12, 3) := by decide +kernel
theorem d_T_init_15 : decode prog_1_method_1_code 15 = .ok (.aload_n 0, 1) := by decide +kernel
theorem d_T_init_16 : decode prog_1_method_1_code 16 = .ok (.bipush 9, 2) := by decide +kernel
theorem d_T_init_18 : decode prog_1_method_1_code 18 = .ok (.newarray .int, 2) := by decide +kernel
theorem d_T_init_20 : decode prog_1_method_1_code 20 = .ok (.putfield 16, 3) := by decide +kernel
theorem d_T_init_23 : decode prog_1_method_1_code 23 = .ok (.aload_n 0, 1) := by decide +kernel
theorem d_T_init_24 : decode prog_1_method_1_code 24 = .ok (.new 20, 3) := by decide +kernel
theorem d_T_init_27 : decode prog_1_method_1_code 27 = .ok (.dup, 1) := by decide +kernel
theorem d_T_init_28 : decode prog_1_method_1_code 28 = .ok (.invokespecial 22, 3) := by decide +kernel
theorem d_T_init_31 : decode prog_1_method_1_code 31 = .ok (.putfield 23, 3) := by decide +kernel
theorem d_T_init_34 : decode prog_1_method_1_code 34 = .ok (.aload_n 0, 1) := by decide +kernel
theorem d_T_init_35 : decode prog_1_method_1_code 35 = .ok (.new 27, 3) := by decide +kernel
theorem d_T_init_38 : decode prog_1_method_1_code 38 = .ok (.dup, 1) := by decide +kernel
theorem d_T_init_39 : decode prog_1_method_1_code 39 = .ok (.invokespecial 29, 3) := by decide +kernel
theorem d_T_init_42 : decode prog_1_method_1_code 42 = .ok (.putfield 30, 3) := by decide +kernel
theorem d_T_init_45 : decode prog_1_method_1_code 45 = .ok (.aload_n 0, 1) := by decide +kernel
theorem d_T_init_46 : decode prog_1_method_1_code 46 = .ok (.bipush 6, 2) := by decide +kernel
theorem d_T_init_48 : decode prog_1_method_1_code 48 = .ok (.anewarray 34, 3) := by decide +kernel
theorem d_T_init_51 : decode prog_1_method_1_code 51 = .ok (.putfield 36, 3) := by decide +kernel
theorem d_T_init_54 : decode prog_1_method_1_code 54 = .ok (.aload_n 0, 1) := by decide +kernel
theorem d_T_init_55 : decode prog_1_method_1_code 55 = .ok (.iconst 2, 1) := by decide +kernel
theorem d_T_init_56 : decode prog_1_method_1_code 56 = .ok (.anewarray 40, 3) := by decide +kernel
theorem d_T_init_59 : decode prog_1_method_1_code 59 = .ok (.putfield 42, 3) := by decide +kernel
theorem d_T_init_62 : decode prog_1_method_1_code 62 = .ok (.aload_n 0, 1) := by decide +kernel
theorem d_T_init_63 : decode prog_1_method_1_code 63 = .ok (.new 46, 3) := by decide +kernel
theorem d_T_init_66 : decode prog_1_method_1_code 66 = .ok (.dup, 1) := by decide +kernel
theorem d_T_init_67 : decode prog_1_method_1_code 67 = .ok (.invokespecial 48, 3) := by decide +kernel
theorem d_T_init_70 : decode prog_1_method_1_code 70 = .ok (.putfield 49, 3) := by decide +kernel
theorem d_T_init_73 : decode prog_1_method_1_code 73 = .ok (.aload_n 0, 1) := by decide +kernel
theorem d_T_init_74 : decode prog_1_method_1_code 74 = .ok (.bipush 64, 2) := by decide +kernel
theorem d_T_init_76 : decode prog_1_method_1_code 76 = .ok (.newarray .int, 2) := by decide +kernel
theorem d_T_init_78 : decode prog_1_method_1_code 78 = .ok (.putfield 53, 3) := by decide +kernel
theorem d_T_init_81 : decode prog_1_method_1_code 81 = .ok (.aload_n 0, 1) := by decide +kernel
theorem d_T_init_82 : decode prog_1_method_1_code 82 = .ok (.iconst 0, 1) := by decide +kernel
theorem d_T_init_83 : decode prog_1_method_1_code 83 = .ok (.putfield 56, 3) := by decide +kernel
theorem d_T_init_86 : decode prog_1_method_1_code 86 = .ok (.iconst 0, 1) := by decide +kernel
theorem d_T_init_87 : decode prog_1_method_1_code 87 = .ok (.istore_n 1, 1) := by decide +kernel
theorem d_T_init_88 : decode prog_1_method_1_code 88 = .ok (.iload_n 1, 1) := by decide +kernel
theorem d_T_init_89 : decode prog_1_method_1_code 89 = .ok (.bipush 6, 2) := by decide +kernel
theorem d_T_init_91 : decode prog_1_method_1_code 91 = .ok (.if_icmp .ge 22, 3) := by decide +kernel
theorem d_T_init_94 : decode prog_1_method_1_code 94 = .ok (.aload_n 0, 1) := by decide +kernel
theorem d_T_init_95 : decode prog_1_method_1_code 95 = .ok (.getfield 36, 3) := by decide +kernel
theorem d_T_init_98 : decode prog_1_method_1_code 98 = .ok (.iload_n 1, 1) := by decide +kernel
theorem d_T_init_99 : decode prog_1_method_1_code 99 = .ok (.new 34, 3) := by decide +kernel
theorem d_T_init_102 : decode prog_1_method_1_code 102 = .ok (.dup, 1) := by decide +kernel
theorem d_T_init_103 : decode prog_1_method_1_code 103 = .ok (.invokespecial 60, 3) := by decide +kernel
theorem d_T_init_106 : decode prog_1_method_1_code 106 = .ok (.aastore, 1) := by decide +kernel
theorem d_T_init_107 : decode prog_1_method_1_code 107 = .ok (.iinc 1 1, 3) := by decide +kernel
theorem d_T_init_110 : decode prog_1_method_1_code 110 = .ok (.goto (-22), 3) := by decide +kernel
theorem d_T_init_113 : decode prog_1_method_1_code 113 = .ok (.iconst 0, 1) := by decide +kernel
theorem d_T_init_114 : decode prog_1_method_1_code 114 = .ok (.istore_n 1, 1) := by decide +kernel
theorem d_T_init_115 : decode prog_1_method_1_code 115 = .ok (.iload_n 1, 1) := by decide +kernel
theorem d_T_init_116 : decode prog_1_method_1_code 116 = .ok (.iconst 2, 1) := by decide +kernel
theorem d_T_init_117 : decode prog_1_method_1_code 117 = .ok (.if_icmp .ge 22, 3) := by decide +kernel
theorem d_T_init_120 : decode prog_1_method_1_code 120 = .ok (.aload_n 0, 1) := by decide +kernel
theorem d_T_init_121 : decode prog_1_method_1_code 121 = .ok (.getfield 42, 3) := by decide +kernel
theorem d_T_init_124 : decode prog_1_method_1_code 124 = .ok (.iload_n 1, 1) := by decide +kernel
theorem d_T_init_125 : decode prog_1_method_1_code 125 = .ok (.new 40, 3) := by decide +kernel
theorem d_T_init_128 : decode prog_1_method_1_code 128 = .ok (.dup, 1) := by decide +kernel
theorem d_T_init_129 : decode prog_1_method_1_code 129 = .ok (.invokespecial 61, 3) := by decide +kernel
theorem d_T_init_132 : decode prog_1_method_1_code 132 = .ok (.aastore, 1) := by decide +kernel
theorem d_T_init_133 : decode prog_1_method_1_code 133 = .ok (.iinc 1 1, 3) := by decide +kernel
theorem d_T_init_136 : decode prog_1_method_1_code 136 = .ok (.goto (-21), 3) := by decide +kernel
theorem d_T_init_139 : decode prog_1_method_1_code 139 = .ok (.return_, 1) := by decide +kernel
def k_T_init_0 (G : oG) (Post : oP) : oK := o_aload 0 <| o_objInit <| o_aload 0 <| o_new 0 [.null, .null] <| o_dup <| o_callI G m_M_init 0 <| o_jmp G m_T_init Post 12 [0]
theorem s_T_init_0 {G : oG} {Post : oP} : oS G m_T_init Post 0 (k_T_init_0 G Post) := by
  unfold k_T_init_0
  refine so_aload_n d_T_init_0 rfl ?_
  refine so_objInit w_84 w_85 w_objcode (by decide) (by decide) d_T_init_1 ?_
  refine so_aload_n d_T_init_4 rfl ?_
  refine so_new cl_0 w_87 w_88 w_70 rfl rfl (by decide +kernel) d_T_init_5 ?_
  refine so_dup d_T_init_8 ?_
  refine so_callI f_M_init w_90 rfl rfl w_89 (by decide) (by decide) d_T_init_9 ?_
  exact so_jmp
def k_T_init_12 (G : oG) (Post : oP) : oK := o_putfR 6 0 <| o_aload 0 <| o_iconst 9 <| o_newa 0 (.inl (fun _ => 0)) <| o_putfR 6 1 <| o_aload 0 <| o_new 1 [.null, .null, .int 0] <| o_dup <| o_callI G m_N_init 0 <| o_jmp G m_T_init Post 31 [0]
theorem s_T_init_12 {G : oG} {Post : oP} : oS G m_T_init Post 12 (k_T_init_12 G Post) := by
  unfold k_T_init_12
  refine so_putfRF cl_6 (k := 0) (by decide) (Or.inl ⟨_, rfl⟩) rfl rfl rfl w_196 d_T_init_12 ?_
  refine so_aload_n d_T_init_15 rfl ?_
  refine so_bipush d_T_init_16 rfl ?_
  refine so_newa (ty := .int) rfl w_104 (t := 0) rfl (fun _ q => by cases q) (by decide) rfl (fun _ _ => rfl) d_T_init_18 ?_
  refine so_putfRF cl_6 (k := 1) (by decide) (Or.inr ⟨_, rfl⟩) rfl rfl rfl w_197 d_T_init_20 ?_
  refine so_aload_n d_T_init_23 rfl ?_
  refine so_new cl_1 w_105 w_106 w_72 rfl rfl (by decide +kernel) d_T_init_24 ?_
  refine so_dup d_T_init_27 ?_
  refine so_callIN f_N_init w_108 rfl rfl w_107 (by decide) (by decide) d_T_init_28 ?_
  exact so_jmp
def k_T_init_31 (G : oG) (Post : oP) : oK := o_putfR 6 2 <| o_aload 0 <| o_new 2 [.null, .null, .null, .null, .null] <| o_dup <| o_callI G m_O_init 0 <| o_jmp G m_T_init Post 42 [0]
theorem s_T_init_31 {G : oG} {Post : oP} : oS G m_T_init Post 31 (k_T_init_31 G Post) := by
  unfold k_T_init_31
  refine so_putfRF cl_6 (k := 2) (by decide) (Or.inl ⟨_, rfl⟩) rfl rfl rfl w_198 d_T_init_31 ?_
  refine so_aload_n d_T_init_34 rfl ?_
  refine so_new cl_2 w_125 w_126 w_73 rfl rfl (by decide +kernel) d_T_init_35 ?_
  refine so_dup d_T_init_38 ?_
  refine so_callI f_O_init w_128 rfl rfl w_127 (by decide) (by decide) d_T_init_39 ?_
  exact so_jmp
def k_T_init_42 (G : oG) (Post : oP) : oK := o_putfR 6 3 <| o_aload 0 <| o_iconst 6 <| o_newa 3 (.inr (.inr (.inr (.inr (fun _ => none))))) <| o_putfR 6 4 <| o_aload 0 <| o_iconst 2 <| o_newa 4 (.inr (.inr (.inr (.inr (fun _ => none))))) <| o_putfR 6 5 <| o_aload 0 <| o_new 4 [.null, .null, .int 0] <| o_dup <| o_callI G m_R_init 0 <| o_jmp G m_T_init Post 70 [0]
theorem s_T_init_42 {G : oG} {Post : oP} : oS G m_T_init Post 42 (k_T_init_42 G Post) := by
  unfold k_T_init_42
  refine so_putfRF cl_6 (k := 3) (by decide) (Or.inl ⟨_, rfl⟩) rfl rfl rfl w_199 d_T_init_42 ?_
  refine so_aload_n d_T_init_45 rfl ?_
  refine so_bipush d_T_init_46 rfl ?_
  refine so_anew w_150 (by decide) (t := 3) rfl d_T_init_48 ?_
  refine so_putfRF cl_6 (k := 4) (by decide) (Or.inr ⟨_, rfl⟩) rfl rfl rfl w_200 d_T_init_51 ?_
  refine so_aload_n d_T_init_54 rfl ?_
  refine so_iconst d_T_init_55 rfl ?_
  refine so_anew w_152 (by decide) (t := 4) rfl d_T_init_56 ?_
  refine so_putfRF cl_6 (k := 5) (by decide) (Or.inr ⟨_, rfl⟩) rfl rfl rfl w_201 d_T_init_59 ?_
  refine so_aload_n d_T_init_62 rfl ?_
  refine so_new cl_4 w_154 w_155 w_74 rfl rfl (by decide +kernel) d_T_init_63 ?_
  refine so_dup d_T_init_66 ?_
  refine so_callIN f_R_init w_157 rfl rfl w_156 (by decide) (by decide) d_T_init_67 ?_
  exact so_jmp
def k_T_init_70 (G : oG) (Post : oP) : oK := o_putfR 6 6 <| o_aload 0 <| o_iconst 64 <| o_newa 0 (.inl (fun _ => 0)) <| o_putfR 6 7 <| o_aload 0 <| o_iconst 0 <| o_putfI 6 8 <| o_iconst 0 <| o_istore 1 <| o_jmp G m_T_init Post 88 [0, 1]
theorem s_T_init_70 {G : oG} {Post : oP} : oS G m_T_init Post 70 (k_T_init_70 G Post) := by
  unfold k_T_init_70
  refine so_putfRF cl_6 (k := 6) (by decide) (Or.inl ⟨_, rfl⟩) rfl rfl rfl w_202 d_T_init_70 ?_
  refine so_aload_n d_T_init_73 rfl ?_
  refine so_bipush d_T_init_74 rfl ?_
  refine so_newa (ty := .int) rfl w_104 (t := 0) rfl (fun _ q => by cases q) (by decide) rfl (fun _ _ => rfl) d_T_init_76 ?_
  refine so_putfRF cl_6 (k := 7) (by decide) (Or.inr ⟨_, rfl⟩) rfl rfl rfl w_203 d_T_init_78 ?_
  refine so_aload_n d_T_init_81 rfl ?_
  refine so_iconst d_T_init_82 rfl ?_
  refine so_putfI cl_6 (k := 8) (by decide) rfl rfl w_204 d_T_init_83 ?_
  refine so_iconst d_T_init_86 rfl ?_
  refine so_istore_n d_T_init_87 rfl (by decide) ?_
  exact so_jmp
def k_T_init_88 (G : oG) (Post : oP) : oK := o_iload 1 <| o_iconst 6 <| o_icmpge (o_iconst 0 <| o_istore 1 <| o_jmp G m_T_init Post 115 [0, 1]) (o_aload 0 <| o_getf 6 4 <| o_iload 1 <| o_new 5 [.null, .int 0] <| o_dup <| o_callI G m_F_init 0 <| o_jmp G m_T_init Post 106 [0, 1])
theorem s_T_init_88 {G : oG} {Post : oP} : oS G m_T_init Post 88 (k_T_init_88 G Post) := by
  unfold k_T_init_88
  refine so_iload_n d_T_init_88 rfl ?_
  refine so_bipush d_T_init_89 rfl ?_
  refine so_icmpge d_T_init_91 (tgt := 113) (by decide) ?_ ?_
  · refine so_iconst d_T_init_113 rfl ?_
    refine so_istore_n d_T_init_114 rfl (by decide) ?_
    exact so_jmp
  · refine so_aload_n d_T_init_94 rfl ?_
    refine so_getf cl_6 (k := 4) (by decide) w_200 d_T_init_95 ?_
    refine so_iload_n d_T_init_98 rfl ?_
    refine so_new cl_5 w_150 w_170 w_75 rfl rfl (by decide +kernel) d_T_init_99 ?_
    refine so_dup d_T_init_102 ?_
    refine so_callIN f_F_init w_172 rfl rfl w_171 (by decide) (by decide) d_T_init_103 ?_
    exact so_jmp
def k_T_init_106 (G : oG) (Post : oP) : oK := o_aast 3 5 <| o_iinc 1 1 <| o_jmp G m_T_init Post 88 [0, 1]
theorem s_T_init_106 {G : oG} {Post : oP} : oS G m_T_init Post 106 (k_T_init_106 G Post) := by
  unfold k_T_init_106
  refine so_aast cl_5 d_T_init_106 (tt := 3) rfl ?_
  refine so_iinc d_T_init_107 rfl (by decide) ?_
  refine so_goto d_T_init_110 (tgt := 88) (by decide) ?_
  exact so_jmp
def k_T_init_115 (G : oG) (Post : oP) : oK := o_iload 1 <| o_iconst 2 <| o_icmpge (o_vret Post) (o_aload 0 <| o_getf 6 5 <| o_iload 1 <| o_new 3 [.null, .int 0] <| o_dup <| o_callI G m_P_init 0 <| o_jmp G m_T_init Post 132 [0, 1])
theorem s_T_init_115 {G : oG} {Post : oP} : oS G m_T_init Post 115 (k_T_init_115 G Post) := by
  unfold k_T_init_115
  refine so_iload_n d_T_init_115 rfl ?_
  refine so_iconst d_T_init_116 rfl ?_
  refine so_icmpge d_T_init_117 (tgt := 139) (by decide) ?_ ?_
  · exact so_vret d_T_init_139 rfl
  · refine so_aload_n d_T_init_120 rfl ?_
    refine so_getf cl_6 (k := 5) (by decide) w_201 d_T_init_121 ?_
    refine so_iload_n d_T_init_124 rfl ?_
    refine so_new cl_3 w_152 w_183 w_76 rfl rfl (by decide +kernel) d_T_init_125 ?_
    refine so_dup d_T_init_128 ?_
    refine so_callIN f_P_init w_185 rfl rfl w_184 (by decide) (by decide) d_T_init_129 ?_
    exact so_jmp
def k_T_init_132 (G : oG) (Post : oP) : oK := o_aast 4 3 <| o_iinc 1 1 <| o_jmp G m_T_init Post 115 [0, 1]
theorem s_T_init_132 {G : oG} {Post : oP} : oS G m_T_init Post 132 (k_T_init_132 G Post) := by
  unfold k_T_init_132
  refine so_aast cl_3 d_T_init_132 (tt := 4) rfl ?_
  refine so_iinc d_T_init_133 rfl (by decide) ?_
  refine so_goto d_T_init_136 (tgt := 115) (by decide) ?_
  exact so_jmp
theorem d_T_isWithin_0 : decode prog_1_method_14_code 0 = .ok (.iload_n 0, 1) := by decide +kernel
theorem d_T_isWithin_1 : decode prog_1_method_14_code 1 = .ok (.ifCond .lt 12, 3) := by decide +kernel
theorem d_T_isWithin_4 : decode prog_1_method_14_code 4 = .ok (.iload_n 0, 1) := by decide +kernel
theorem d_T_isWithin_5 : decode prog_1_method_14_code 5 = .ok (.iload_n 1, 1) := by decide +kernel
theorem d_T_isWithin_6 : decode prog_1_method_14_code 6 = .ok (.if_icmp .ge 7, 3) := by decide +kernel
theorem d_T_isWithin_9 : decode prog_1_method_14_code 9 = .ok (.iconst 1, 1) := by decide +kernel
theorem d_T_isWithin_10 : decode prog_1_method_14_code 10 = .ok (.goto 4, 3) := by decide +kernel
theorem d_T_isWithin_13 : decode prog_1_method_14_code 13 = .ok (.iconst 0, 1) := by decide +kernel
theorem d_T_isWithin_14 : decode prog_1_method_14_code 14 = .ok (.ireturn, 1) := by decide +kernel
def k_T_isWithin_0 (G : oG) (Post : oP) : oK := o_iload 0 <| o_iflt (o_iconst 0 <| o_zret Post) (o_iload 0 <| o_iload 1 <| o_icmpge (o_iconst 0 <| o_zret Post) (o_iconst 1 <| o_zret Post))
theorem s_T_isWithin_0 {G : oG} {Post : oP} : oS G m_T_isWithin Post 0 (k_T_isWithin_0 G Post) := by
  unfold k_T_isWithin_0
  refine so_iload_n d_T_isWithin_0 rfl ?_
  refine so_iflt d_T_isWithin_1 (tgt := 13) (by decide) ?_ ?_
  · refine so_iconst d_T_isWithin_13 rfl ?_
    exact so_zret d_T_isWithin_14 rfl
  · refine so_iload_n d_T_isWithin_4 rfl ?_
    refine so_iload_n d_T_isWithin_5 rfl ?_
    refine so_icmpge d_T_isWithin_6 (tgt := 13) (by decide) ?_ ?_
    · refine so_iconst d_T_isWithin_13 rfl ?_
      exact so_zret d_T_isWithin_14 rfl
    · refine so_iconst d_T_isWithin_9 rfl ?_
      refine so_goto d_T_isWithin_10 (tgt := 14) (by decide) ?_
      exact so_zret d_T_isWithin_14 rfl
theorem d_T_isProcess_0 : decode prog_1_method_15_code 0 = .ok (.iload_n 0, 1) := by decide +kernel
theorem d_T_isProcess_1 : decode prog_1_method_15_code 1 = .ok (.iconst 3, 1) := by decide +kernel
theorem d_T_isProcess_2 : decode prog_1_method_15_code 2 = .ok (.invokestatic 66, 3) := by decide +kernel
theorem d_T_isProcess_5 : decode prog_1_method_15_code 5 = .ok (.ireturn, 1) := by decide +kernel
def k_T_isProcess_0 (G : oG) (Post : oP) : oK := o_iload 0 <| o_iconst 3 <| o_callS G m_T_isWithin 2 <| o_jmp G m_T_isProcess Post 5 []
theorem s_T_isProcess_0 {G : oG} {Post : oP} : oS G m_T_isProcess Post 0 (k_T_isProcess_0 G Post) := by
  unfold k_T_isProcess_0
  refine so_iload_n d_T_isProcess_0 rfl ?_
  refine so_iconst d_T_isProcess_1 rfl ?_
  refine so_callS f_T_isWithin w_232 w_231 (by decide) (by decide) d_T_isProcess_2 ?_
  exact so_jmp
def k_T_isProcess_5 (G : oG) (Post : oP) : oK := o_zret Post
theorem s_T_isProcess_5 {G : oG} {Post : oP} : oS G m_T_isProcess Post 5 (k_T_isProcess_5 G Post) := by
  unfold k_T_isProcess_5
  exact so_zret d_T_isProcess_5 rfl
theorem d_T_map_0 : decode prog_1_method_2_code 0 = .ok (.iload_n 1, 1) := by decide +kernel
theorem d_T_map_1 : decode prog_1_method_2_code 1 = .ok (.invokestatic 62, 3) := by decide +kernel
theorem d_T_map_4 : decode prog_1_method_2_code 4 = .ok (.ifCond .eq 33, 3) := by decide +kernel
theorem d_T_map_7 : decode prog_1_method_2_code 7 = .ok (.iload_n 2, 1) := by decide +kernel
theorem d_T_map_8 : decode prog_1_method_2_code 8 = .ok (.bipush 16, 2) := by decide +kernel
theorem d_T_map_10 : decode prog_1_method_2_code 10 = .ok (.invokestatic 66, 3) := by decide +kernel
theorem d_T_map_13 : decode prog_1_method_2_code 13 = .ok (.ifCond .eq 24, 3) := by decide +kernel
theorem d_T_map_16 : decode prog_1_method_2_code 16 = .ok (.iload_n 3, 1) := by decide +kernel
theorem d_T_map_17 : decode prog_1_method_2_code 17 = .ok (.bipush 20, 2) := by decide +kernel
theorem d_T_map_19 : decode prog_1_method_2_code 19 = .ok (.invokestatic 66, 3) := by decide +kernel
theorem d_T_map_22 : decode prog_1_method_2_code 22 = .ok (.ifCond .eq 15, 3) := by decide +kernel
theorem d_T_map_25 : decode prog_1_method_2_code 25 = .ok (.iload 4, 2) := by decide +kernel
theorem d_T_map_27 : decode prog_1_method_2_code 27 = .ok (.ifCond .lt 10, 3) := by decide +kernel
theorem d_T_map_30 : decode prog_1_method_2_code 30 = .ok (.iload 4, 2) := by decide +kernel
theorem d_T_map_32 : decode prog_1_method_2_code 32 = .ok (.bipush 7, 2) := by decide +kernel
theorem d_T_map_34 : decode prog_1_method_2_code 34 = .ok (.if_icmp .le 5, 3) := by decide +kernel
theorem d_T_map_37 : decode prog_1_method_2_code 37 = .ok (.iconst 0, 1) := by decide +kernel
theorem d_T_map_38 : decode prog_1_method_2_code 38 = .ok (.ireturn, 1) := by decide +kernel
theorem d_T_map_39 : decode prog_1_method_2_code 39 = .ok (.aload_n 0, 1) := by decide +kernel
theorem d_T_map_40 : decode prog_1_method_2_code 40 = .ok (.getfield 12, 3) := by decide +kernel
theorem d_T_map_43 : decode prog_1_method_2_code 43 = .ok (.iload_n 1, 1) := by decide +kernel
theorem d_T_map_44 : decode prog_1_method_2_code 44 = .ok (.iload_n 2, 1) := by decide +kernel
theorem d_T_map_45 : decode prog_1_method_2_code 45 = .ok (.bipush 8, 2) := by decide +kernel
theorem d_T_map_47 : decode prog_1_method_2_code 47 = .ok (.iload_n 3, 1) := by decide +kernel
theorem d_T_map_48 : decode prog_1_method_2_code 48 = .ok (.imul, 1) := by decide +kernel
theorem d_T_map_49 : decode prog_1_method_2_code 49 = .ok (.iload 4, 2) := by decide +kernel
theorem d_T_map_51 : decode prog_1_method_2_code 51 = .ok (.iadd, 1) := by decide +kernel
theorem d_T_map_52 : decode prog_1_method_2_code 52 = .ok (.invokevirtual 70, 3) := by decide +kernel
theorem d_T_map_55 : decode prog_1_method_2_code 55 = .ok (.iconst 1, 1) := by decide +kernel
theorem d_T_map_56 : decode prog_1_method_2_code 56 = .ok (.ireturn, 1) := by decide +kernel
def k_T_map_0 (G : oG) (Post : oP) : oK := o_iload 1 <| o_callS G m_T_isProcess 1 <| o_jmp G m_T_map Post 4 [0, 1, 2, 3, 4]
theorem s_T_map_0 {G : oG} {Post : oP} : oS G m_T_map Post 0 (k_T_map_0 G Post) := by
  unfold k_T_map_0
  refine so_iload_n d_T_map_0 rfl ?_
  refine so_callS f_T_isProcess w_229 w_228 (by decide) (by decide) d_T_map_1 ?_
  exact so_jmp
def k_T_map_4 (G : oG) (Post : oP) : oK := o_ifeq (o_iconst 0 <| o_zret Post) (o_iload 2 <| o_iconst 16 <| o_callS G m_T_isWithin 2 <| o_jmp G m_T_map Post 13 [0, 1, 2, 3, 4])
theorem s_T_map_4 {G : oG} {Post : oP} : oS G m_T_map Post 4 (k_T_map_4 G Post) := by
  unfold k_T_map_4
  refine so_ifeq d_T_map_4 (tgt := 37) (by decide) ?_ ?_
  · refine so_iconst d_T_map_37 rfl ?_
    exact so_zret d_T_map_38 rfl
  · refine so_iload_n d_T_map_7 rfl ?_
    refine so_bipush d_T_map_8 rfl ?_
    refine so_callS f_T_isWithin w_232 w_231 (by decide) (by decide) d_T_map_10 ?_
    exact so_jmp
def k_T_map_13 (G : oG) (Post : oP) : oK := o_ifeq (o_iconst 0 <| o_zret Post) (o_iload 3 <| o_iconst 20 <| o_callS G m_T_isWithin 2 <| o_jmp G m_T_map Post 22 [0, 1, 2, 3, 4])
theorem s_T_map_13 {G : oG} {Post : oP} : oS G m_T_map Post 13 (k_T_map_13 G Post) := by
  unfold k_T_map_13
  refine so_ifeq d_T_map_13 (tgt := 37) (by decide) ?_ ?_
  · refine so_iconst d_T_map_37 rfl ?_
    exact so_zret d_T_map_38 rfl
  · refine so_iload_n d_T_map_16 rfl ?_
    refine so_bipush d_T_map_17 rfl ?_
    refine so_callS f_T_isWithin w_232 w_231 (by decide) (by decide) d_T_map_19 ?_
    exact so_jmp
def k_T_map_22 (G : oG) (Post : oP) : oK := o_ifeq (o_iconst 0 <| o_zret Post) (o_iload 4 <| o_iflt (o_iconst 0 <| o_zret Post) (o_iload 4 <| o_iconst 7 <| o_icmple (o_aload 0 <| o_getf 6 0 <| o_iload 1 <| o_iload 2 <| o_iconst 8 <| o_iload 3 <| o_imul <| o_iload 4 <| o_iadd <| o_callV G 0 m_M_setEntry 3 <| o_jmp G m_T_map Post 55 []) (o_iconst 0 <| o_zret Post)))
theorem s_T_map_22 {G : oG} {Post : oP} : oS G m_T_map Post 22 (k_T_map_22 G Post) := by
  unfold k_T_map_22
  refine so_ifeq d_T_map_22 (tgt := 37) (by decide) ?_ ?_
  · refine so_iconst d_T_map_37 rfl ?_
    exact so_zret d_T_map_38 rfl
  · refine so_iload d_T_map_25 ?_
    refine so_iflt d_T_map_27 (tgt := 37) (by decide) ?_ ?_
    · refine so_iconst d_T_map_37 rfl ?_
      exact so_zret d_T_map_38 rfl
    · refine so_iload d_T_map_30 ?_
      refine so_bipush d_T_map_32 rfl ?_
      refine so_icmple d_T_map_34 (tgt := 39) (by decide) ?_ ?_
      · refine so_aload_n d_T_map_39 rfl ?_
        refine so_getf cl_6 (k := 0) (by decide) w_196 d_T_map_40 ?_
        refine so_iload_n d_T_map_43 rfl ?_
        refine so_iload_n d_T_map_44 rfl ?_
        refine so_bipush d_T_map_45 rfl ?_
        refine so_iload_n d_T_map_47 rfl ?_
        refine so_imul d_T_map_48 ?_
        refine so_iload d_T_map_49 ?_
        refine so_iadd d_T_map_51 ?_
        refine so_callV cl_0 f_M_setEntry w_235 w_236 w_234 (by decide) (by decide) d_T_map_52 ?_
        exact so_jmp
      · refine so_iconst d_T_map_37 rfl ?_
        exact so_zret d_T_map_38 rfl
def k_T_map_55 (G : oG) (Post : oP) : oK := o_iconst 1 <| o_zret Post
theorem s_T_map_55 {G : oG} {Post : oP} : oS G m_T_map Post 55 (k_T_map_55 G Post) := by
  unfold k_T_map_55
  refine so_iconst d_T_map_55 rfl ?_
  exact so_zret d_T_map_56 rfl
theorem d_T_page_0 : decode prog_1_method_4_code 0 = .ok (.iload_n 1, 1) := by decide +kernel
theorem d_T_page_1 : decode prog_1_method_4_code 1 = .ok (.invokestatic 62, 3) := by decide +kernel
theorem d_T_page_4 : decode prog_1_method_4_code 4 = .ok (.ifCond .eq 24, 3) := by decide +kernel
theorem d_T_page_7 : decode prog_1_method_4_code 7 = .ok (.iload_n 2, 1) := by decide +kernel
theorem d_T_page_8 : decode prog_1_method_4_code 8 = .ok (.bipush 16, 2) := by decide +kernel
theorem d_T_page_10 : decode prog_1_method_4_code 10 = .ok (.invokestatic 66, 3) := by decide +kernel
theorem d_T_page_13 : decode prog_1_method_4_code 13 = .ok (.ifCond .eq 15, 3) := by decide +kernel
theorem d_T_page_16 : decode prog_1_method_4_code 16 = .ok (.aload_n 0, 1) := by decide +kernel
theorem d_T_page_17 : decode prog_1_method_4_code 17 = .ok (.getfield 12, 3) := by decide +kernel
theorem d_T_page_20 : decode prog_1_method_4_code 20 = .ok (.iload_n 1, 1) := by decide +kernel
theorem d_T_page_21 : decode prog_1_method_4_code 21 = .ok (.iload_n 2, 1) := by decide +kernel
theorem d_T_page_22 : decode prog_1_method_4_code 22 = .ok (.invokevirtual 78, 3) := by decide +kernel
theorem d_T_page_25 : decode prog_1_method_4_code 25 = .ok (.goto 4, 3) := by decide +kernel
theorem d_T_page_28 : decode prog_1_method_4_code 28 = .ok (.iconst (-1), 1) := by decide +kernel
theorem d_T_page_29 : decode prog_1_method_4_code 29 = .ok (.ireturn, 1) := by decide +kernel
def k_T_page_0 (G : oG) (Post : oP) : oK := o_iload 1 <| o_callS G m_T_isProcess 1 <| o_jmp G m_T_page Post 4 [0, 1, 2]
theorem s_T_page_0 {G : oG} {Post : oP} : oS G m_T_page Post 0 (k_T_page_0 G Post) := by
  unfold k_T_page_0
  refine so_iload_n d_T_page_0 rfl ?_
  refine so_callS f_T_isProcess w_229 w_228 (by decide) (by decide) d_T_page_1 ?_
  exact so_jmp
def k_T_page_4 (G : oG) (Post : oP) : oK := o_ifeq (o_iconst (-1) <| o_iret Post) (o_iload 2 <| o_iconst 16 <| o_callS G m_T_isWithin 2 <| o_jmp G m_T_page Post 13 [0, 1, 2])
theorem s_T_page_4 {G : oG} {Post : oP} : oS G m_T_page Post 4 (k_T_page_4 G Post) := by
  unfold k_T_page_4
  refine so_ifeq d_T_page_4 (tgt := 28) (by decide) ?_ ?_
  · refine so_iconst d_T_page_28 rfl ?_
    exact so_iret d_T_page_29 rfl
  · refine so_iload_n d_T_page_7 rfl ?_
    refine so_bipush d_T_page_8 rfl ?_
    refine so_callS f_T_isWithin w_232 w_231 (by decide) (by decide) d_T_page_10 ?_
    exact so_jmp
def k_T_page_13 (G : oG) (Post : oP) : oK := o_ifeq (o_iconst (-1) <| o_iret Post) (o_aload 0 <| o_getf 6 0 <| o_iload 1 <| o_iload 2 <| o_callV G 0 m_M_entry 2 <| o_jmp G m_T_page Post 25 [])
theorem s_T_page_13 {G : oG} {Post : oP} : oS G m_T_page Post 13 (k_T_page_13 G Post) := by
  unfold k_T_page_13
  refine so_ifeq d_T_page_13 (tgt := 28) (by decide) ?_ ?_
  · refine so_iconst d_T_page_28 rfl ?_
    exact so_iret d_T_page_29 rfl
  · refine so_aload_n d_T_page_16 rfl ?_
    refine so_getf cl_6 (k := 0) (by decide) w_196 d_T_page_17 ?_
    refine so_iload_n d_T_page_20 rfl ?_
    refine so_iload_n d_T_page_21 rfl ?_
    refine so_callV cl_0 f_M_entry w_247 w_248 w_246 (by decide) (by decide) d_T_page_22 ?_
    exact so_jmp
def k_T_page_25 (G : oG) (Post : oP) : oK := o_iret Post
theorem s_T_page_25 {G : oG} {Post : oP} : oS G m_T_page Post 25 (k_T_page_25 G Post) := by
  unfold k_T_page_25
  refine so_goto d_T_page_25 (tgt := 29) (by decide) ?_
  exact so_iret d_T_page_29 rfl
theorem d_T_unmap_0 : decode prog_1_method_3_code 0 = .ok (.aload_n 0, 1) := by decide +kernel
theorem d_T_unmap_1 : decode prog_1_method_3_code 1 = .ok (.iload_n 1, 1) := by decide +kernel
theorem d_T_unmap_2 : decode prog_1_method_3_code 2 = .ok (.iload_n 2, 1) := by decide +kernel
theorem d_T_unmap_3 : decode prog_1_method_3_code 3 = .ok (.invokevirtual 74, 3) := by decide +kernel
theorem d_T_unmap_6 : decode prog_1_method_3_code 6 = .ok (.iconst (-1), 1) := by decide +kernel
theorem d_T_unmap_7 : decode prog_1_method_3_code 7 = .ok (.if_icmp .ne 5, 3) := by decide +kernel
theorem d_T_unmap_10 : decode prog_1_method_3_code 10 = .ok (.iconst 0, 1) := by decide +kernel
theorem d_T_unmap_11 : decode prog_1_method_3_code 11 = .ok (.ireturn, 1) := by decide +kernel
theorem d_T_unmap_12 : decode prog_1_method_3_code 12 = .ok (.aload_n 0, 1) := by decide +kernel
theorem d_T_unmap_13 : decode prog_1_method_3_code 13 = .ok (.getfield 12, 3) := by decide +kernel
theorem d_T_unmap_16 : decode prog_1_method_3_code 16 = .ok (.iload_n 1, 1) := by decide +kernel
theorem d_T_unmap_17 : decode prog_1_method_3_code 17 = .ok (.iload_n 2, 1) := by decide +kernel
theorem d_T_unmap_18 : decode prog_1_method_3_code 18 = .ok (.iconst (-1), 1) := by decide +kernel
theorem d_T_unmap_19 : decode prog_1_method_3_code 19 = .ok (.invokevirtual 70, 3) := by decide +kernel
theorem d_T_unmap_22 : decode prog_1_method_3_code 22 = .ok (.iconst 1, 1) := by decide +kernel
theorem d_T_unmap_23 : decode prog_1_method_3_code 23 = .ok (.ireturn, 1) := by decide +kernel
def k_T_unmap_0 (G : oG) (Post : oP) : oK := o_aload 0 <| o_iload 1 <| o_iload 2 <| o_callV G 6 m_T_page 2 <| o_jmp G m_T_unmap Post 6 [0, 1, 2]
theorem s_T_unmap_0 {G : oG} {Post : oP} : oS G m_T_unmap Post 0 (k_T_unmap_0 G Post) := by
  unfold k_T_unmap_0
  refine so_aload_n d_T_unmap_0 rfl ?_
  refine so_iload_n d_T_unmap_1 rfl ?_
  refine so_iload_n d_T_unmap_2 rfl ?_
  refine so_callV cl_6 f_T_page w_243 w_244 w_242 (by decide) (by decide) d_T_unmap_3 ?_
  exact so_jmp
def k_T_unmap_6 (G : oG) (Post : oP) : oK := o_iconst (-1) <| o_icmpne (o_aload 0 <| o_getf 6 0 <| o_iload 1 <| o_iload 2 <| o_iconst (-1) <| o_callV G 0 m_M_setEntry 3 <| o_jmp G m_T_unmap Post 22 []) (o_iconst 0 <| o_zret Post)
theorem s_T_unmap_6 {G : oG} {Post : oP} : oS G m_T_unmap Post 6 (k_T_unmap_6 G Post) := by
  unfold k_T_unmap_6
  refine so_iconst d_T_unmap_6 rfl ?_
  refine so_icmpne d_T_unmap_7 (tgt := 12) (by decide) ?_ ?_
  · refine so_aload_n d_T_unmap_12 rfl ?_
    refine so_getf cl_6 (k := 0) (by decide) w_196 d_T_unmap_13 ?_
    refine so_iload_n d_T_unmap_16 rfl ?_
    refine so_iload_n d_T_unmap_17 rfl ?_
    refine so_iconst d_T_unmap_18 rfl ?_
    refine so_callV cl_0 f_M_setEntry w_235 w_236 w_234 (by decide) (by decide) d_T_unmap_19 ?_
    exact so_jmp
  · refine so_iconst d_T_unmap_10 rfl ?_
    exact so_zret d_T_unmap_11 rfl
def k_T_unmap_22 (G : oG) (Post : oP) : oK := o_iconst 1 <| o_zret Post
theorem s_T_unmap_22 {G : oG} {Post : oP} : oS G m_T_unmap Post 22 (k_T_unmap_22 G Post) := by
  unfold k_T_unmap_22
  refine so_iconst d_T_unmap_22 rfl ?_
  exact so_zret d_T_unmap_23 rfl
theorem d_T_poke_0 : decode prog_1_method_5_code 0 = .ok (.iload_n 1, 1) := by decide +kernel
theorem d_T_poke_1 : decode prog_1_method_5_code 1 = .ok (.bipush 20, 2) := by decide +kernel
theorem d_T_poke_3 : decode prog_1_method_5_code 3 = .ok (.invokestatic 66, 3) := by decide +kernel
theorem d_T_poke_6 : decode prog_1_method_5_code 6 = .ok (.ifCond .eq 23, 3) := by decide +kernel
theorem d_T_poke_9 : decode prog_1_method_5_code 9 = .ok (.iload_n 2, 1) := by decide +kernel
theorem d_T_poke_10 : decode prog_1_method_5_code 10 = .ok (.bipush 16, 2) := by decide +kernel
theorem d_T_poke_12 : decode prog_1_method_5_code 12 = .ok (.invokestatic 66, 3) := by decide +kernel
theorem d_T_poke_15 : decode prog_1_method_5_code 15 = .ok (.ifCond .eq 14, 3) := by decide +kernel
theorem d_T_poke_18 : decode prog_1_method_5_code 18 = .ok (.iload_n 3, 1) := by decide +kernel
theorem d_T_poke_19 : decode prog_1_method_5_code 19 = .ok (.ifCond .lt 10, 3) := by decide +kernel
theorem d_T_poke_22 : decode prog_1_method_5_code 22 = .ok (.iload_n 3, 1) := by decide +kernel
theorem d_T_poke_23 : decode prog_1_method_5_code 23 = .ok (.sipush 255, 3) := by decide +kernel
theorem d_T_poke_26 : decode prog_1_method_5_code 26 = .ok (.if_icmp .le 5, 3) := by decide +kernel
theorem d_T_poke_29 : decode prog_1_method_5_code 29 = .ok (.iconst 0, 1) := by decide +kernel
theorem d_T_poke_30 : decode prog_1_method_5_code 30 = .ok (.ireturn, 1) := by decide +kernel
theorem d_T_poke_31 : decode prog_1_method_5_code 31 = .ok (.aload_n 0, 1) := by decide +kernel
theorem d_T_poke_32 : decode prog_1_method_5_code 32 = .ok (.getfield 12, 3) := by decide +kernel
theorem d_T_poke_35 : decode prog_1_method_5_code 35 = .ok (.getfield 81, 3) := by decide +kernel
theorem d_T_poke_38 : decode prog_1_method_5_code 38 = .ok (.iload_n 1, 1) := by decide +kernel
theorem d_T_poke_39 : decode prog_1_method_5_code 39 = .ok (.bipush 16, 2) := by decide +kernel
theorem d_T_poke_41 : decode prog_1_method_5_code 41 = .ok (.imul, 1) := by decide +kernel
theorem d_T_poke_42 : decode prog_1_method_5_code 42 = .ok (.iload_n 2, 1) := by decide +kernel
theorem d_T_poke_43 : decode prog_1_method_5_code 43 = .ok (.iadd, 1) := by decide +kernel
theorem d_T_poke_44 : decode prog_1_method_5_code 44 = .ok (.iload_n 3, 1) := by decide +kernel
theorem d_T_poke_45 : decode prog_1_method_5_code 45 = .ok (.iastore, 1) := by decide +kernel
theorem d_T_poke_46 : decode prog_1_method_5_code 46 = .ok (.iconst 1, 1) := by decide +kernel
theorem d_T_poke_47 : decode prog_1_method_5_code 47 = .ok (.ireturn, 1) := by decide +kernel
def k_T_poke_0 (G : oG) (Post : oP) : oK := o_iload 1 <| o_iconst 20 <| o_callS G m_T_isWithin 2 <| o_jmp G m_T_poke Post 6 [0, 1, 2, 3]
theorem s_T_poke_0 {G : oG} {Post : oP} : oS G m_T_poke Post 0 (k_T_poke_0 G Post) := by
  unfold k_T_poke_0
  refine so_iload_n d_T_poke_0 rfl ?_
  refine so_bipush d_T_poke_1 rfl ?_
  refine so_callS f_T_isWithin w_232 w_231 (by decide) (by decide) d_T_poke_3 ?_
  exact so_jmp
def k_T_poke_6 (G : oG) (Post : oP) : oK := o_ifeq (o_iconst 0 <| o_zret Post) (o_iload 2 <| o_iconst 16 <| o_callS G m_T_isWithin 2 <| o_jmp G m_T_poke Post 15 [0, 1, 2, 3])
theorem s_T_poke_6 {G : oG} {Post : oP} : oS G m_T_poke Post 6 (k_T_poke_6 G Post) := by
  unfold k_T_poke_6
  refine so_ifeq d_T_poke_6 (tgt := 29) (by decide) ?_ ?_
  · refine so_iconst d_T_poke_29 rfl ?_
    exact so_zret d_T_poke_30 rfl
  · refine so_iload_n d_T_poke_9 rfl ?_
    refine so_bipush d_T_poke_10 rfl ?_
    refine so_callS f_T_isWithin w_232 w_231 (by decide) (by decide) d_T_poke_12 ?_
    exact so_jmp
def k_T_poke_15 (G : oG) (Post : oP) : oK := o_ifeq (o_iconst 0 <| o_zret Post) (o_iload 3 <| o_iflt (o_iconst 0 <| o_zret Post) (o_iload 3 <| o_iconst 255 <| o_icmple (o_aload 0 <| o_getf 6 0 <| o_getf 0 0 <| o_iload 1 <| o_iconst 16 <| o_imul <| o_iload 2 <| o_iadd <| o_iload 3 <| o_iast <| o_iconst 1 <| o_zret Post) (o_iconst 0 <| o_zret Post)))
theorem s_T_poke_15 {G : oG} {Post : oP} : oS G m_T_poke Post 15 (k_T_poke_15 G Post) := by
  unfold k_T_poke_15
  refine so_ifeq d_T_poke_15 (tgt := 29) (by decide) ?_ ?_
  · refine so_iconst d_T_poke_29 rfl ?_
    exact so_zret d_T_poke_30 rfl
  · refine so_iload_n d_T_poke_18 rfl ?_
    refine so_iflt d_T_poke_19 (tgt := 29) (by decide) ?_ ?_
    · refine so_iconst d_T_poke_29 rfl ?_
      exact so_zret d_T_poke_30 rfl
    · refine so_iload_n d_T_poke_22 rfl ?_
      refine so_sipush d_T_poke_23 rfl ?_
      refine so_icmple d_T_poke_26 (tgt := 31) (by decide) ?_ ?_
      · refine so_aload_n d_T_poke_31 rfl ?_
        refine so_getf cl_6 (k := 0) (by decide) w_196 d_T_poke_32 ?_
        refine so_getfN cl_0 (k := 0) (by decide) w_97 d_T_poke_35 ?_
        refine so_iload_n d_T_poke_38 rfl ?_
        refine so_bipush d_T_poke_39 rfl ?_
        refine so_imul d_T_poke_41 ?_
        refine so_iload_n d_T_poke_42 rfl ?_
        refine so_iadd d_T_poke_43 ?_
        refine so_iload_n d_T_poke_44 rfl ?_
        refine so_iast d_T_poke_45 ?_
        refine so_iconst d_T_poke_46 rfl ?_
        exact so_zret d_T_poke_47 rfl
      · refine so_iconst d_T_poke_29 rfl ?_
        exact so_zret d_T_poke_30 rfl
theorem d_T_peek_0 : decode prog_1_method_6_code 0 = .ok (.iload_n 1, 1) := by decide +kernel
theorem d_T_peek_1 : decode prog_1_method_6_code 1 = .ok (.bipush 20, 2) := by decide +kernel
theorem d_T_peek_3 : decode prog_1_method_6_code 3 = .ok (.invokestatic 66, 3) := by decide +kernel
theorem d_T_peek_6 : decode prog_1_method_6_code 6 = .ok (.ifCond .eq 12, 3) := by decide +kernel
theorem d_T_peek_9 : decode prog_1_method_6_code 9 = .ok (.iload_n 2, 1) := by decide +kernel
theorem d_T_peek_10 : decode prog_1_method_6_code 10 = .ok (.bipush 16, 2) := by decide +kernel
theorem d_T_peek_12 : decode prog_1_method_6_code 12 = .ok (.invokestatic 66, 3) := by decide +kernel
theorem d_T_peek_15 : decode prog_1_method_6_code 15 = .ok (.ifCond .ne 5, 3) := by decide +kernel
theorem d_T_peek_18 : decode prog_1_method_6_code 18 = .ok (.iconst (-1), 1) := by decide +kernel
theorem d_T_peek_19 : decode prog_1_method_6_code 19 = .ok (.ireturn, 1) := by decide +kernel
theorem d_T_peek_20 : decode prog_1_method_6_code 20 = .ok (.aload_n 0, 1) := by decide +kernel
theorem d_T_peek_21 : decode prog_1_method_6_code 21 = .ok (.getfield 12, 3) := by decide +kernel
theorem d_T_peek_24 : decode prog_1_method_6_code 24 = .ok (.getfield 81, 3) := by decide +kernel
theorem d_T_peek_27 : decode prog_1_method_6_code 27 = .ok (.iload_n 1, 1) := by decide +kernel
theorem d_T_peek_28 : decode prog_1_method_6_code 28 = .ok (.bipush 16, 2) := by decide +kernel
theorem d_T_peek_30 : decode prog_1_method_6_code 30 = .ok (.imul, 1) := by decide +kernel
theorem d_T_peek_31 : decode prog_1_method_6_code 31 = .ok (.iload_n 2, 1) := by decide +kernel
theorem d_T_peek_32 : decode prog_1_method_6_code 32 = .ok (.iadd, 1) := by decide +kernel
theorem d_T_peek_33 : decode prog_1_method_6_code 33 = .ok (.iaload, 1) := by decide +kernel
theorem d_T_peek_34 : decode prog_1_method_6_code 34 = .ok (.ireturn, 1) := by decide +kernel
def k_T_peek_0 (G : oG) (Post : oP) : oK := o_iload 1 <| o_iconst 20 <| o_callS G m_T_isWithin 2 <| o_jmp G m_T_peek Post 6 [0, 1, 2]
theorem s_T_peek_0 {G : oG} {Post : oP} : oS G m_T_peek Post 0 (k_T_peek_0 G Post) := by
  unfold k_T_peek_0
  refine so_iload_n d_T_peek_0 rfl ?_
  refine so_bipush d_T_peek_1 rfl ?_
  refine so_callS f_T_isWithin w_232 w_231 (by decide) (by decide) d_T_peek_3 ?_
  exact so_jmp
def k_T_peek_6 (G : oG) (Post : oP) : oK := o_ifeq (o_iconst (-1) <| o_iret Post) (o_iload 2 <| o_iconst 16 <| o_callS G m_T_isWithin 2 <| o_jmp G m_T_peek Post 15 [0, 1, 2])
theorem s_T_peek_6 {G : oG} {Post : oP} : oS G m_T_peek Post 6 (k_T_peek_6 G Post) := by
  unfold k_T_peek_6
  refine so_ifeq d_T_peek_6 (tgt := 18) (by decide) ?_ ?_
  · refine so_iconst d_T_peek_18 rfl ?_
    exact so_iret d_T_peek_19 rfl
  · refine so_iload_n d_T_peek_9 rfl ?_
    refine so_bipush d_T_peek_10 rfl ?_
    refine so_callS f_T_isWithin w_232 w_231 (by decide) (by decide) d_T_peek_12 ?_
    exact so_jmp
def k_T_peek_15 (G : oG) (Post : oP) : oK := o_ifne (o_aload 0 <| o_getf 6 0 <| o_getf 0 0 <| o_iload 1 <| o_iconst 16 <| o_imul <| o_iload 2 <| o_iadd <| o_iald G <| o_iret Post) (o_iconst (-1) <| o_iret Post)
theorem s_T_peek_15 {G : oG} {Post : oP} : oS G m_T_peek Post 15 (k_T_peek_15 G Post) := by
  unfold k_T_peek_15
  refine so_ifne d_T_peek_15 (tgt := 20) (by decide) ?_ ?_
  · refine so_aload_n d_T_peek_20 rfl ?_
    refine so_getf cl_6 (k := 0) (by decide) w_196 d_T_peek_21 ?_
    refine so_getfN cl_0 (k := 0) (by decide) w_97 d_T_peek_24 ?_
    refine so_iload_n d_T_peek_27 rfl ?_
    refine so_bipush d_T_peek_28 rfl ?_
    refine so_imul d_T_peek_30 ?_
    refine so_iload_n d_T_peek_31 rfl ?_
    refine so_iadd d_T_peek_32 ?_
    refine so_iald d_T_peek_33 ?_
    exact so_iret d_T_peek_34 rfl
  · refine so_iconst d_T_peek_18 rfl ?_
    exact so_iret d_T_peek_19 rfl
theorem d_T_set_0 : decode prog_1_method_7_code 0 = .ok (.iload_n 1, 1) := by decide +kernel
theorem d_T_set_1 : decode prog_1_method_7_code 1 = .ok (.invokestatic 62, 3) := by decide +kernel
theorem d_T_set_4 : decode prog_1_method_7_code 4 = .ok (.ifCond .eq 11, 3) := by decide +kernel
theorem d_T_set_7 : decode prog_1_method_7_code 7 = .ok (.iload_n 2, 1) := by decide +kernel
theorem d_T_set_8 : decode prog_1_method_7_code 8 = .ok (.iconst 3, 1) := by decide +kernel
theorem d_T_set_9 : decode prog_1_method_7_code 9 = .ok (.invokestatic 66, 3) := by decide +kernel
theorem d_T_set_12 : decode prog_1_method_7_code 12 = .ok (.ifCond .ne 5, 3) := by decide +kernel
theorem d_T_set_15 : decode prog_1_method_7_code 15 = .ok (.iconst 0, 1) := by decide +kernel
theorem d_T_set_16 : decode prog_1_method_7_code 16 = .ok (.ireturn, 1) := by decide +kernel
theorem d_T_set_17 : decode prog_1_method_7_code 17 = .ok (.aload_n 0, 1) := by decide +kernel
theorem d_T_set_18 : decode prog_1_method_7_code 18 = .ok (.getfield 16, 3) := by decide +kernel
theorem d_T_set_21 : decode prog_1_method_7_code 21 = .ok (.iload_n 1, 1) := by decide +kernel
theorem d_T_set_22 : decode prog_1_method_7_code 22 = .ok (.iconst 3, 1) := by decide +kernel
theorem d_T_set_23 : decode prog_1_method_7_code 23 = .ok (.imul, 1) := by decide +kernel
theorem d_T_set_24 : decode prog_1_method_7_code 24 = .ok (.iload_n 2, 1) := by decide +kernel
theorem d_T_set_25 : decode prog_1_method_7_code 25 = .ok (.iadd, 1) := by decide +kernel
theorem d_T_set_26 : decode prog_1_method_7_code 26 = .ok (.iload_n 3, 1) := by decide +kernel
theorem d_T_set_27 : decode prog_1_method_7_code 27 = .ok (.iastore, 1) := by decide +kernel
theorem d_T_set_28 : decode prog_1_method_7_code 28 = .ok (.iconst 1, 1) := by decide +kernel
theorem d_T_set_29 : decode prog_1_method_7_code 29 = .ok (.ireturn, 1) := by decide +kernel
def k_T_set_0 (G : oG) (Post : oP) : oK := o_iload 1 <| o_callS G m_T_isProcess 1 <| o_jmp G m_T_set Post 4 [0, 1, 2, 3]
theorem s_T_set_0 {G : oG} {Post : oP} : oS G m_T_set Post 0 (k_T_set_0 G Post) := by
  unfold k_T_set_0
  refine so_iload_n d_T_set_0 rfl ?_
  refine so_callS f_T_isProcess w_229 w_228 (by decide) (by decide) d_T_set_1 ?_
  exact so_jmp
def k_T_set_4 (G : oG) (Post : oP) : oK := o_ifeq (o_iconst 0 <| o_zret Post) (o_iload 2 <| o_iconst 3 <| o_callS G m_T_isWithin 2 <| o_jmp G m_T_set Post 12 [0, 1, 2, 3])
theorem s_T_set_4 {G : oG} {Post : oP} : oS G m_T_set Post 4 (k_T_set_4 G Post) := by
  unfold k_T_set_4
  refine so_ifeq d_T_set_4 (tgt := 15) (by decide) ?_ ?_
  · refine so_iconst d_T_set_15 rfl ?_
    exact so_zret d_T_set_16 rfl
  · refine so_iload_n d_T_set_7 rfl ?_
    refine so_iconst d_T_set_8 rfl ?_
    refine so_callS f_T_isWithin w_232 w_231 (by decide) (by decide) d_T_set_9 ?_
    exact so_jmp
def k_T_set_12 (G : oG) (Post : oP) : oK := o_ifne (o_aload 0 <| o_getf 6 1 <| o_iload 1 <| o_iconst 3 <| o_imul <| o_iload 2 <| o_iadd <| o_iload 3 <| o_iast <| o_iconst 1 <| o_zret Post) (o_iconst 0 <| o_zret Post)
theorem s_T_set_12 {G : oG} {Post : oP} : oS G m_T_set Post 12 (k_T_set_12 G Post) := by
  unfold k_T_set_12
  refine so_ifne d_T_set_12 (tgt := 17) (by decide) ?_ ?_
  · refine so_aload_n d_T_set_17 rfl ?_
    refine so_getf cl_6 (k := 1) (by decide) w_197 d_T_set_18 ?_
    refine so_iload_n d_T_set_21 rfl ?_
    refine so_iconst d_T_set_22 rfl ?_
    refine so_imul d_T_set_23 ?_
    refine so_iload_n d_T_set_24 rfl ?_
    refine so_iadd d_T_set_25 ?_
    refine so_iload_n d_T_set_26 rfl ?_
    refine so_iast d_T_set_27 ?_
    refine so_iconst d_T_set_28 rfl ?_
    exact so_zret d_T_set_29 rfl
  · refine so_iconst d_T_set_15 rfl ?_
    exact so_zret d_T_set_16 rfl
theorem d_T_register_0 : decode prog_1_method_8_code 0 = .ok (.iload_n 1, 1) := by decide +kernel
theorem d_T_register_1 : decode prog_1_method_8_code 1 = .ok (.invokestatic 62, 3) := by decide +kernel
theorem d_T_register_4 : decode prog_1_method_8_code 4 = .ok (.ifCond .eq 24, 3) := by decide +kernel
theorem d_T_register_7 : decode prog_1_method_8_code 7 = .ok (.iload_n 2, 1) := by decide +kernel
theorem d_T_register_8 : decode prog_1_method_8_code 8 = .ok (.iconst 3, 1) := by decide +kernel
theorem d_T_register_9 : decode prog_1_method_8_code 9 = .ok (.invokestatic 66, 3) := by decide +kernel
theorem d_T_register_12 : decode prog_1_method_8_code 12 = .ok (.ifCond .eq 16, 3) := by decide +kernel
theorem d_T_register_15 : decode prog_1_method_8_code 15 = .ok (.aload_n 0, 1) := by decide +kernel
theorem d_T_register_16 : decode prog_1_method_8_code 16 = .ok (.getfield 16, 3) := by decide +kernel
theorem d_T_register_19 : decode prog_1_method_8_code 19 = .ok (.iload_n 1, 1) := by decide +kernel
theorem d_T_register_20 : decode prog_1_method_8_code 20 = .ok (.iconst 3, 1) := by decide +kernel
theorem d_T_register_21 : decode prog_1_method_8_code 21 = .ok (.imul, 1) := by decide +kernel
theorem d_T_register_22 : decode prog_1_method_8_code 22 = .ok (.iload_n 2, 1) := by decide +kernel
theorem d_T_register_23 : decode prog_1_method_8_code 23 = .ok (.iadd, 1) := by decide +kernel
theorem d_T_register_24 : decode prog_1_method_8_code 24 = .ok (.iaload, 1) := by decide +kernel
theorem d_T_register_25 : decode prog_1_method_8_code 25 = .ok (.goto 4, 3) := by decide +kernel
theorem d_T_register_28 : decode prog_1_method_8_code 28 = .ok (.iconst 0, 1) := by decide +kernel
theorem d_T_register_29 : decode prog_1_method_8_code 29 = .ok (.ireturn, 1) := by decide +kernel
def k_T_register_0 (G : oG) (Post : oP) : oK := o_iload 1 <| o_callS G m_T_isProcess 1 <| o_jmp G m_T_register Post 4 [0, 1, 2]
theorem s_T_register_0 {G : oG} {Post : oP} : oS G m_T_register Post 0 (k_T_register_0 G Post) := by
  unfold k_T_register_0
  refine so_iload_n d_T_register_0 rfl ?_
  refine so_callS f_T_isProcess w_229 w_228 (by decide) (by decide) d_T_register_1 ?_
  exact so_jmp
def k_T_register_4 (G : oG) (Post : oP) : oK := o_ifeq (o_iconst 0 <| o_iret Post) (o_iload 2 <| o_iconst 3 <| o_callS G m_T_isWithin 2 <| o_jmp G m_T_register Post 12 [0, 1, 2])
theorem s_T_register_4 {G : oG} {Post : oP} : oS G m_T_register Post 4 (k_T_register_4 G Post) := by
  unfold k_T_register_4
  refine so_ifeq d_T_register_4 (tgt := 28) (by decide) ?_ ?_
  · refine so_iconst d_T_register_28 rfl ?_
    exact so_iret d_T_register_29 rfl
  · refine so_iload_n d_T_register_7 rfl ?_
    refine so_iconst d_T_register_8 rfl ?_
    refine so_callS f_T_isWithin w_232 w_231 (by decide) (by decide) d_T_register_9 ?_
    exact so_jmp
def k_T_register_12 (G : oG) (Post : oP) : oK := o_ifeq (o_iconst 0 <| o_iret Post) (o_aload 0 <| o_getf 6 1 <| o_iload 1 <| o_iconst 3 <| o_imul <| o_iload 2 <| o_iadd <| o_iald G <| o_iret Post)
theorem s_T_register_12 {G : oG} {Post : oP} : oS G m_T_register Post 12 (k_T_register_12 G Post) := by
  unfold k_T_register_12
  refine so_ifeq d_T_register_12 (tgt := 28) (by decide) ?_ ?_
  · refine so_iconst d_T_register_28 rfl ?_
    exact so_iret d_T_register_29 rfl
  · refine so_aload_n d_T_register_15 rfl ?_
    refine so_getf cl_6 (k := 1) (by decide) w_197 d_T_register_16 ?_
    refine so_iload_n d_T_register_19 rfl ?_
    refine so_iconst d_T_register_20 rfl ?_
    refine so_imul d_T_register_21 ?_
    refine so_iload_n d_T_register_22 rfl ?_
    refine so_iadd d_T_register_23 ?_
    refine so_iald d_T_register_24 ?_
    refine so_goto d_T_register_25 (tgt := 29) (by decide) ?_
    exact so_iret d_T_register_29 rfl
theorem d_T_isOpenMode_0 : decode prog_1_method_18_code 0 = .ok (.iload_n 0, 1) := by decide +kernel
theorem d_T_isOpenMode_1 : decode prog_1_method_18_code 1 = .ok (.ifCond .lt 15, 3) := by decide +kernel
theorem d_T_isOpenMode_4 : decode prog_1_method_18_code 4 = .ok (.iload_n 0, 1) := by decide +kernel
theorem d_T_isOpenMode_5 : decode prog_1_method_18_code 5 = .ok (.bipush 15, 2) := by decide +kernel
theorem d_T_isOpenMode_7 : decode prog_1_method_18_code 7 = .ok (.if_icmp .gt 9, 3) := by decide +kernel
theorem d_T_isOpenMode_10 : decode prog_1_method_18_code 10 = .ok (.iload_n 0, 1) := by decide +kernel
theorem d_T_isOpenMode_11 : decode prog_1_method_18_code 11 = .ok (.iconst 3, 1) := by decide +kernel
theorem d_T_isOpenMode_12 : decode prog_1_method_18_code 12 = .ok (.iand, 1) := by decide +kernel
theorem d_T_isOpenMode_13 : decode prog_1_method_18_code 13 = .ok (.ifCond .ne 5, 3) := by decide +kernel
theorem d_T_isOpenMode_16 : decode prog_1_method_18_code 16 = .ok (.iconst 0, 1) := by decide +kernel
theorem d_T_isOpenMode_17 : decode prog_1_method_18_code 17 = .ok (.ireturn, 1) := by decide +kernel
theorem d_T_isOpenMode_18 : decode prog_1_method_18_code 18 = .ok (.iload_n 0, 1) := by decide +kernel
theorem d_T_isOpenMode_19 : decode prog_1_method_18_code 19 = .ok (.bipush 8, 2) := by decide +kernel
theorem d_T_isOpenMode_21 : decode prog_1_method_18_code 21 = .ok (.iand, 1) := by decide +kernel
theorem d_T_isOpenMode_22 : decode prog_1_method_18_code 22 = .ok (.ifCond .eq 9, 3) := by decide +kernel
theorem d_T_isOpenMode_25 : decode prog_1_method_18_code 25 = .ok (.iload_n 0, 1) := by decide +kernel
theorem d_T_isOpenMode_26 : decode prog_1_method_18_code 26 = .ok (.iconst 2, 1) := by decide +kernel
theorem d_T_isOpenMode_27 : decode prog_1_method_18_code 27 = .ok (.iand, 1) := by decide +kernel
theorem d_T_isOpenMode_28 : decode prog_1_method_18_code 28 = .ok (.ifCond .eq 7, 3) := by decide +kernel
theorem d_T_isOpenMode_31 : decode prog_1_method_18_code 31 = .ok (.iconst 1, 1) := by decide +kernel
theorem d_T_isOpenMode_32 : decode prog_1_method_18_code 32 = .ok (.goto 4, 3) := by decide +kernel
theorem d_T_isOpenMode_35 : decode prog_1_method_18_code 35 = .ok (.iconst 0, 1) := by decide +kernel
theorem d_T_isOpenMode_36 : decode prog_1_method_18_code 36 = .ok (.ireturn, 1) := by decide +kernel
def k_T_isOpenMode_0 (G : oG) (Post : oP) : oK := o_iload 0 <| o_iflt (o_iconst 0 <| o_zret Post) (o_iload 0 <| o_iconst 15 <| o_icmpgt (o_iconst 0 <| o_zret Post) (o_iload 0 <| o_iconst 3 <| o_iand <| o_ifne (o_jmp G m_T_isOpenMode Post 18 [0]) (o_iconst 0 <| o_zret Post)))
theorem s_T_isOpenMode_0 {G : oG} {Post : oP} : oS G m_T_isOpenMode Post 0 (k_T_isOpenMode_0 G Post) := by
  unfold k_T_isOpenMode_0
  refine so_iload_n d_T_isOpenMode_0 rfl ?_
  refine so_iflt d_T_isOpenMode_1 (tgt := 16) (by decide) ?_ ?_
  · refine so_iconst d_T_isOpenMode_16 rfl ?_
    exact so_zret d_T_isOpenMode_17 rfl
  · refine so_iload_n d_T_isOpenMode_4 rfl ?_
    refine so_bipush d_T_isOpenMode_5 rfl ?_
    refine so_icmpgt d_T_isOpenMode_7 (tgt := 16) (by decide) ?_ ?_
    · refine so_iconst d_T_isOpenMode_16 rfl ?_
      exact so_zret d_T_isOpenMode_17 rfl
    · refine so_iload_n d_T_isOpenMode_10 rfl ?_
      refine so_iconst d_T_isOpenMode_11 rfl ?_
      refine so_iand d_T_isOpenMode_12 ?_
      refine so_ifne d_T_isOpenMode_13 (tgt := 18) (by decide) ?_ ?_
      · exact so_jmp
      · refine so_iconst d_T_isOpenMode_16 rfl ?_
        exact so_zret d_T_isOpenMode_17 rfl
def k_T_isOpenMode_18 (G : oG) (Post : oP) : oK := o_iload 0 <| o_iconst 8 <| o_iand <| o_ifeq (o_iconst 1 <| o_zret Post) (o_iload 0 <| o_iconst 2 <| o_iand <| o_ifeq (o_iconst 0 <| o_zret Post) (o_iconst 1 <| o_zret Post))
theorem s_T_isOpenMode_18 {G : oG} {Post : oP} : oS G m_T_isOpenMode Post 18 (k_T_isOpenMode_18 G Post) := by
  unfold k_T_isOpenMode_18
  refine so_iload_n d_T_isOpenMode_18 rfl ?_
  refine so_bipush d_T_isOpenMode_19 rfl ?_
  refine so_iand d_T_isOpenMode_21 ?_
  refine so_ifeq d_T_isOpenMode_22 (tgt := 31) (by decide) ?_ ?_
  · refine so_iconst d_T_isOpenMode_31 rfl ?_
    refine so_goto d_T_isOpenMode_32 (tgt := 36) (by decide) ?_
    exact so_zret d_T_isOpenMode_36 rfl
  · refine so_iload_n d_T_isOpenMode_25 rfl ?_
    refine so_iconst d_T_isOpenMode_26 rfl ?_
    refine so_iand d_T_isOpenMode_27 ?_
    refine so_ifeq d_T_isOpenMode_28 (tgt := 35) (by decide) ?_ ?_
    · refine so_iconst d_T_isOpenMode_35 rfl ?_
      exact so_zret d_T_isOpenMode_36 rfl
    · refine so_iconst d_T_isOpenMode_31 rfl ?_
      refine so_goto d_T_isOpenMode_32 (tgt := 36) (by decide) ?_
      exact so_zret d_T_isOpenMode_36 rfl
theorem d_T_isFileThere_0 : decode prog_1_method_42_code 0 = .ok (.aload_n 0, 1) := by decide +kernel
theorem d_T_isFileThere_1 : decode prog_1_method_42_code 1 = .ok (.getfield 23, 3) := by decide +kernel
theorem d_T_isFileThere_4 : decode prog_1_method_42_code 4 = .ok (.iload_n 1, 1) := by decide +kernel
theorem d_T_isFileThere_5 : decode prog_1_method_42_code 5 = .ok (.invokevirtual 298, 3) := by decide +kernel
theorem d_T_isFileThere_8 : decode prog_1_method_42_code 8 = .ok (.ifCond .gt 15, 3) := by decide +kernel
theorem d_T_isFileThere_11 : decode prog_1_method_42_code 11 = .ok (.aload_n 0, 1) := by decide +kernel
theorem d_T_isFileThere_12 : decode prog_1_method_42_code 12 = .ok (.getfield 30, 3) := by decide +kernel
theorem d_T_isFileThere_15 : decode prog_1_method_42_code 15 = .ok (.iload_n 1, 1) := by decide +kernel
theorem d_T_isFileThere_16 : decode prog_1_method_42_code 16 = .ok (.iconst 3, 1) := by decide +kernel
theorem d_T_isFileThere_17 : decode prog_1_method_42_code 17 = .ok (.invokevirtual 267, 3) := by decide +kernel
theorem d_T_isFileThere_20 : decode prog_1_method_42_code 20 = .ok (.ifCond .le 7, 3) := by decide +kernel
theorem d_T_isFileThere_23 : decode prog_1_method_42_code 23 = .ok (.iconst 1, 1) := by decide +kernel
theorem d_T_isFileThere_24 : decode prog_1_method_42_code 24 = .ok (.goto 4, 3) := by decide +kernel
theorem d_T_isFileThere_27 : decode prog_1_method_42_code 27 = .ok (.iconst 0, 1) := by decide +kernel
theorem d_T_isFileThere_28 : decode prog_1_method_42_code 28 = .ok (.ireturn, 1) := by decide +kernel
def k_T_isFileThere_0 (G : oG) (Post : oP) : oK := o_aload 0 <| o_getf 6 2 <| o_iload 1 <| o_callV G 1 m_N_countOf 1 <| o_jmp G m_T_isFileThere Post 8 [0, 1]
theorem s_T_isFileThere_0 {G : oG} {Post : oP} : oS G m_T_isFileThere Post 0 (k_T_isFileThere_0 G Post) := by
  unfold k_T_isFileThere_0
  refine so_aload_n d_T_isFileThere_0 rfl ?_
  refine so_getf cl_6 (k := 2) (by decide) w_198 d_T_isFileThere_1 ?_
  refine so_iload_n d_T_isFileThere_4 rfl ?_
  refine so_callV cl_1 f_N_countOf w_318 w_319 w_317 (by decide) (by decide) d_T_isFileThere_5 ?_
  exact so_jmp
def k_T_isFileThere_8 (G : oG) (Post : oP) : oK := o_ifgt (o_iconst 1 <| o_zret Post) (o_aload 0 <| o_getf 6 3 <| o_iload 1 <| o_iconst 3 <| o_callV G 2 m_O_countOf 2 <| o_jmp G m_T_isFileThere Post 20 [])
theorem s_T_isFileThere_8 {G : oG} {Post : oP} : oS G m_T_isFileThere Post 8 (k_T_isFileThere_8 G Post) := by
  unfold k_T_isFileThere_8
  refine so_ifgt d_T_isFileThere_8 (tgt := 23) (by decide) ?_ ?_
  · refine so_iconst d_T_isFileThere_23 rfl ?_
    refine so_goto d_T_isFileThere_24 (tgt := 28) (by decide) ?_
    exact so_zret d_T_isFileThere_28 rfl
  · refine so_aload_n d_T_isFileThere_11 rfl ?_
    refine so_getf cl_6 (k := 3) (by decide) w_199 d_T_isFileThere_12 ?_
    refine so_iload_n d_T_isFileThere_15 rfl ?_
    refine so_iconst d_T_isFileThere_16 rfl ?_
    refine so_callV cl_2 f_O_countOf w_322 w_323 w_321 (by decide) (by decide) d_T_isFileThere_17 ?_
    exact so_jmp
def k_T_isFileThere_20 (G : oG) (Post : oP) : oK := o_ifle (o_iconst 0 <| o_zret Post) (o_iconst 1 <| o_zret Post)
theorem s_T_isFileThere_20 {G : oG} {Post : oP} : oS G m_T_isFileThere Post 20 (k_T_isFileThere_20 G Post) := by
  unfold k_T_isFileThere_20
  refine so_ifle d_T_isFileThere_20 (tgt := 27) (by decide) ?_ ?_
  · refine so_iconst d_T_isFileThere_27 rfl ?_
    exact so_zret d_T_isFileThere_28 rfl
  · refine so_iconst d_T_isFileThere_23 rfl ?_
    refine so_goto d_T_isFileThere_24 (tgt := 28) (by decide) ?_
    exact so_zret d_T_isFileThere_28 rfl
theorem d_T_leastFreeFile_0 : decode prog_1_method_46_code 0 = .ok (.iconst 0, 1) := by decide +kernel
theorem d_T_leastFreeFile_1 : decode prog_1_method_46_code 1 = .ok (.istore_n 1, 1) := by decide +kernel
theorem d_T_leastFreeFile_2 : decode prog_1_method_46_code 2 = .ok (.iload_n 1, 1) := by decide +kernel
theorem d_T_leastFreeFile_3 : decode prog_1_method_46_code 3 = .ok (.bipush 6, 2) := by decide +kernel
theorem d_T_leastFreeFile_5 : decode prog_1_method_46_code 5 = .ok (.if_icmp .ge 19, 3) := by decide +kernel
theorem d_T_leastFreeFile_8 : decode prog_1_method_46_code 8 = .ok (.aload_n 0, 1) := by decide +kernel
theorem d_T_leastFreeFile_9 : decode prog_1_method_46_code 9 = .ok (.iload_n 1, 1) := by decide +kernel
theorem d_T_leastFreeFile_10 : decode prog_1_method_46_code 10 = .ok (.invokevirtual 314, 3) := by decide +kernel
theorem d_T_leastFreeFile_13 : decode prog_1_method_46_code 13 = .ok (.ifCond .ne 5, 3) := by decide +kernel
theorem d_T_leastFreeFile_16 : decode prog_1_method_46_code 16 = .ok (.iload_n 1, 1) := by decide +kernel
theorem d_T_leastFreeFile_17 : decode prog_1_method_46_code 17 = .ok (.ireturn, 1) := by decide +kernel
theorem d_T_leastFreeFile_18 : decode prog_1_method_46_code 18 = .ok (.iinc 1 1, 3) := by decide +kernel
theorem d_T_leastFreeFile_21 : decode prog_1_method_46_code 21 = .ok (.goto (-19), 3) := by decide +kernel
theorem d_T_leastFreeFile_24 : decode prog_1_method_46_code 24 = .ok (.iconst (-1), 1) := by decide +kernel
theorem d_T_leastFreeFile_25 : decode prog_1_method_46_code 25 = .ok (.ireturn, 1) := by decide +kernel
def k_T_leastFreeFile_0 (G : oG) (Post : oP) : oK := o_iconst 0 <| o_istore 1 <| o_jmp G m_T_leastFreeFile Post 2 [0, 1]
theorem s_T_leastFreeFile_0 {G : oG} {Post : oP} : oS G m_T_leastFreeFile Post 0 (k_T_leastFreeFile_0 G Post) := by
  unfold k_T_leastFreeFile_0
  refine so_iconst d_T_leastFreeFile_0 rfl ?_
  refine so_istore_n d_T_leastFreeFile_1 rfl (by decide) ?_
  exact so_jmp
def k_T_leastFreeFile_2 (G : oG) (Post : oP) : oK := o_iload 1 <| o_iconst 6 <| o_icmpge (o_iconst (-1) <| o_iret Post) (o_aload 0 <| o_iload 1 <| o_callV G 6 m_T_isFileThere 1 <| o_jmp G m_T_leastFreeFile Post 13 [0, 1])
theorem s_T_leastFreeFile_2 {G : oG} {Post : oP} : oS G m_T_leastFreeFile Post 2 (k_T_leastFreeFile_2 G Post) := by
  unfold k_T_leastFreeFile_2
  refine so_iload_n d_T_leastFreeFile_2 rfl ?_
  refine so_bipush d_T_leastFreeFile_3 rfl ?_
  refine so_icmpge d_T_leastFreeFile_5 (tgt := 24) (by decide) ?_ ?_
  · refine so_iconst d_T_leastFreeFile_24 rfl ?_
    exact so_iret d_T_leastFreeFile_25 rfl
  · refine so_aload_n d_T_leastFreeFile_8 rfl ?_
    refine so_iload_n d_T_leastFreeFile_9 rfl ?_
    refine so_callV cl_6 f_T_isFileThere w_315 w_3 w_313 (by decide) (by decide) d_T_leastFreeFile_10 ?_
    exact so_jmp
def k_T_leastFreeFile_13 (G : oG) (Post : oP) : oK := o_ifne (o_iinc 1 1 <| o_jmp G m_T_leastFreeFile Post 2 [0, 1]) (o_iload 1 <| o_iret Post)
theorem s_T_leastFreeFile_13 {G : oG} {Post : oP} : oS G m_T_leastFreeFile Post 13 (k_T_leastFreeFile_13 G Post) := by
  unfold k_T_leastFreeFile_13
  refine so_ifne d_T_leastFreeFile_13 (tgt := 18) (by decide) ?_ ?_
  · refine so_iinc d_T_leastFreeFile_18 rfl (by decide) ?_
    refine so_goto d_T_leastFreeFile_21 (tgt := 2) (by decide) ?_
    exact so_jmp
  · refine so_iload_n d_T_leastFreeFile_16 rfl ?_
    exact so_iret d_T_leastFreeFile_17 rfl
theorem d_T_open_0 : decode prog_1_method_17_code 0 = .ok (.iload_n 3, 1) := by decide +kernel
theorem d_T_open_1 : decode prog_1_method_17_code 1 = .ok (.invokestatic 152, 3) := by decide +kernel
theorem d_T_open_4 : decode prog_1_method_17_code 4 = .ok (.ifCond .ne 6, 3) := by decide +kernel
theorem d_T_open_7 : decode prog_1_method_17_code 7 = .ok (.bipush (-22), 2) := by decide +kernel
theorem d_T_open_9 : decode prog_1_method_17_code 9 = .ok (.ireturn, 1) := by decide +kernel
theorem d_T_open_10 : decode prog_1_method_17_code 10 = .ok (.aload_n 0, 1) := by decide +kernel
theorem d_T_open_11 : decode prog_1_method_17_code 11 = .ok (.getfield 12, 3) := by decide +kernel
theorem d_T_open_14 : decode prog_1_method_17_code 14 = .ok (.iload_n 1, 1) := by decide +kernel
theorem d_T_open_15 : decode prog_1_method_17_code 15 = .ok (.iload_n 2, 1) := by decide +kernel
theorem d_T_open_16 : decode prog_1_method_17_code 16 = .ok (.invokevirtual 155, 3) := by decide +kernel
theorem d_T_open_19 : decode prog_1_method_17_code 19 = .ok (.lstore 4, 2) := by decide +kernel
theorem d_T_open_21 : decode prog_1_method_17_code 21 = .ok (.lload 4, 2) := by decide +kernel
theorem d_T_open_23 : decode prog_1_method_17_code 23 = .ok (.ldc2_w 159, 3) := by decide +kernel
theorem d_T_open_26 : decode prog_1_method_17_code 26 = .ok (.lcmp, 1) := by decide +kernel
theorem d_T_open_27 : decode prog_1_method_17_code 27 = .ok (.ifCond .ne 6, 3) := by decide +kernel
theorem d_T_open_30 : decode prog_1_method_17_code 30 = .ok (.bipush (-14), 2) := by decide +kernel
theorem d_T_open_32 : decode prog_1_method_17_code 32 = .ok (.ireturn, 1) := by decide +kernel
theorem d_T_open_33 : decode prog_1_method_17_code 33 = .ok (.aload_n 0, 1) := by decide +kernel
theorem d_T_open_34 : decode prog_1_method_17_code 34 = .ok (.getfield 23, 3) := by decide +kernel
theorem d_T_open_37 : decode prog_1_method_17_code 37 = .ok (.lload 4, 2) := by decide +kernel
theorem d_T_open_39 : decode prog_1_method_17_code 39 = .ok (.invokevirtual 161, 3) := by decide +kernel
theorem d_T_open_42 : decode prog_1_method_17_code 42 = .ok (.istore 6, 2) := by decide +kernel
theorem d_T_open_44 : decode prog_1_method_17_code 44 = .ok (.lload 4, 2) := by decide +kernel
theorem d_T_open_46 : decode prog_1_method_17_code 46 = .ok (.lconst 0, 1) := by decide +kernel
theorem d_T_open_47 : decode prog_1_method_17_code 47 = .ok (.lcmp, 1) := by decide +kernel
theorem d_T_open_48 : decode prog_1_method_17_code 48 = .ok (.ifCond .eq 15, 3) := by decide +kernel
theorem d_T_open_51 : decode prog_1_method_17_code 51 = .ok (.iload 6, 2) := by decide +kernel
theorem d_T_open_53 : decode prog_1_method_17_code 53 = .ok (.iconst (-1), 1) := by decide +kernel
theorem d_T_open_54 : decode prog_1_method_17_code 54 = .ok (.if_icmp .ne 12, 3) := by decide +kernel
theorem d_T_open_57 : decode prog_1_method_17_code 57 = .ok (.iload_n 3, 1) := by decide +kernel
theorem d_T_open_58 : decode prog_1_method_17_code 58 = .ok (.iconst 4, 1) := by decide +kernel
theorem d_T_open_59 : decode prog_1_method_17_code 59 = .ok (.iand, 1) := by decide +kernel
theorem d_T_open_60 : decode prog_1_method_17_code 60 = .ok (.ifCond .ne 6, 3) := by decide +kernel
theorem d_T_open_63 : decode prog_1_method_17_code 63 = .ok (.bipush (-2), 2) := by decide +kernel
theorem d_T_open_65 : decode prog_1_method_17_code 65 = .ok (.ireturn, 1) := by decide +kernel
theorem d_T_open_66 : decode prog_1_method_17_code 66 = .ok (.aload_n 0, 1) := by decide +kernel
theorem d_T_open_67 : decode prog_1_method_17_code 67 = .ok (.getfield 30, 3) := by decide +kernel
theorem d_T_open_70 : decode prog_1_method_17_code 70 = .ok (.iload_n 1, 1) := by decide +kernel
theorem d_T_open_71 : decode prog_1_method_17_code 71 = .ok (.iconst 0, 1) := by decide +kernel
theorem d_T_open_72 : decode prog_1_method_17_code 72 = .ok (.invokevirtual 165, 3) := by decide +kernel
theorem d_T_open_75 : decode prog_1_method_17_code 75 = .ok (.istore 7, 2) := by decide +kernel
theorem d_T_open_77 : decode prog_1_method_17_code 77 = .ok (.iload 7, 2) := by decide +kernel
theorem d_T_open_79 : decode prog_1_method_17_code 79 = .ok (.iconst (-1), 1) := by decide +kernel
theorem d_T_open_80 : decode prog_1_method_17_code 80 = .ok (.if_icmp .ne 6, 3) := by decide +kernel
theorem d_T_open_83 : decode prog_1_method_17_code 83 = .ok (.bipush (-24), 2) := by decide +kernel
theorem d_T_open_85 : decode prog_1_method_17_code 85 = .ok (.ireturn, 1) := by decide +kernel
theorem d_T_open_86 : decode prog_1_method_17_code 86 = .ok (.aload_n 0, 1) := by decide +kernel
theorem d_T_open_87 : decode prog_1_method_17_code 87 = .ok (.getfield 30, 3) := by decide +kernel
theorem d_T_open_90 : decode prog_1_method_17_code 90 = .ok (.iconst 0, 1) := by decide +kernel
theorem d_T_open_91 : decode prog_1_method_17_code 91 = .ok (.invokevirtual 168, 3) := by decide +kernel
theorem d_T_open_94 : decode prog_1_method_17_code 94 = .ok (.istore 8, 2) := by decide +kernel
theorem d_T_open_96 : decode prog_1_method_17_code 96 = .ok (.iload 8, 2) := by decide +kernel
theorem d_T_open_98 : decode prog_1_method_17_code 98 = .ok (.iconst (-1), 1) := by decide +kernel
theorem d_T_open_99 : decode prog_1_method_17_code 99 = .ok (.if_icmp .ne 6, 3) := by decide +kernel
theorem d_T_open_102 : decode prog_1_method_17_code 102 = .ok (.bipush (-23), 2) := by decide +kernel
theorem d_T_open_104 : decode prog_1_method_17_code 104 = .ok (.ireturn, 1) := by decide +kernel
theorem d_T_open_105 : decode prog_1_method_17_code 105 = .ok (.iload 6, 2) := by decide +kernel
theorem d_T_open_107 : decode prog_1_method_17_code 107 = .ok (.iconst (-1), 1) := by decide +kernel
theorem d_T_open_108 : decode prog_1_method_17_code 108 = .ok (.if_icmp .ne 10, 3) := by decide +kernel
theorem d_T_open_111 : decode prog_1_method_17_code 111 = .ok (.aload_n 0, 1) := by decide +kernel
theorem d_T_open_112 : decode prog_1_method_17_code 112 = .ok (.invokevirtual 171, 3) := by decide +kernel
theorem d_T_open_115 : decode prog_1_method_17_code 115 = .ok (.goto 13, 3) := by decide +kernel
theorem d_T_open_118 : decode prog_1_method_17_code 118 = .ok (.aload_n 0, 1) := by decide +kernel
theorem d_T_open_119 : decode prog_1_method_17_code 119 = .ok (.getfield 23, 3) := by decide +kernel
theorem d_T_open_122 : decode prog_1_method_17_code 122 = .ok (.getfield 174, 3) := by decide +kernel
theorem d_T_open_125 : decode prog_1_method_17_code 125 = .ok (.iload 6, 2) := by decide +kernel
theorem d_T_open_127 : decode prog_1_method_17_code 127 = .ok (.iaload, 1) := by decide +kernel
theorem d_T_open_128 : decode prog_1_method_17_code 128 = .ok (.istore 9, 2) := by decide +kernel
theorem d_T_open_130 : decode prog_1_method_17_code 130 = .ok (.iload 9, 2) := by decide +kernel
theorem d_T_open_132 : decode prog_1_method_17_code 132 = .ok (.iconst (-1), 1) := by decide +kernel
theorem d_T_open_133 : decode prog_1_method_17_code 133 = .ok (.if_icmp .eq 19, 3) := by decide +kernel
theorem d_T_open_136 : decode prog_1_method_17_code 136 = .ok (.iload 6, 2) := by decide +kernel
theorem d_T_open_138 : decode prog_1_method_17_code 138 = .ok (.iconst (-1), 1) := by decide +kernel
theorem d_T_open_139 : decode prog_1_method_17_code 139 = .ok (.if_icmp .ne 16, 3) := by decide +kernel
theorem d_T_open_142 : decode prog_1_method_17_code 142 = .ok (.aload_n 0, 1) := by decide +kernel
theorem d_T_open_143 : decode prog_1_method_17_code 143 = .ok (.getfield 23, 3) := by decide +kernel
theorem d_T_open_146 : decode prog_1_method_17_code 146 = .ok (.invokevirtual 176, 3) := by decide +kernel
theorem d_T_open_149 : decode prog_1_method_17_code 149 = .ok (.ifCond .eq 6, 3) := by decide +kernel
theorem d_T_open_152 : decode prog_1_method_17_code 152 = .ok (.bipush (-28), 2) := by decide +kernel
theorem d_T_open_154 : decode prog_1_method_17_code 154 = .ok (.ireturn, 1) := by decide +kernel
theorem d_T_open_155 : decode prog_1_method_17_code 155 = .ok (.iload 6, 2) := by decide +kernel
theorem d_T_open_157 : decode prog_1_method_17_code 157 = .ok (.iconst (-1), 1) := by decide +kernel
theorem d_T_open_158 : decode prog_1_method_17_code 158 = .ok (.if_icmp .ne 14, 3) := by decide +kernel
theorem d_T_open_161 : decode prog_1_method_17_code 161 = .ok (.aload_n 0, 1) := by decide +kernel
theorem d_T_open_162 : decode prog_1_method_17_code 162 = .ok (.getfield 23, 3) := by decide +kernel
theorem d_T_open_165 : decode prog_1_method_17_code 165 = .ok (.lload 4, 2) := by decide +kernel
theorem d_T_open_167 : decode prog_1_method_17_code 167 = .ok (.iload 9, 2) := by decide +kernel
theorem d_T_open_169 : decode prog_1_method_17_code 169 = .ok (.invokevirtual 180, 3) := by decide +kernel
theorem d_T_open_172 : decode prog_1_method_17_code 172 = .ok (.iload 6, 2) := by decide +kernel
theorem d_T_open_174 : decode prog_1_method_17_code 174 = .ok (.iconst (-1), 1) := by decide +kernel
theorem d_T_open_175 : decode prog_1_method_17_code 175 = .ok (.if_icmp .eq 10, 3) := by decide +kernel
theorem d_T_open_178 : decode prog_1_method_17_code 178 = .ok (.iload_n 3, 1) := by decide +kernel
theorem d_T_open_179 : decode prog_1_method_17_code 179 = .ok (.bipush 8, 2) := by decide +kernel
theorem d_T_open_181 : decode prog_1_method_17_code 181 = .ok (.iand, 1) := by decide +kernel
theorem d_T_open_182 : decode prog_1_method_17_code 182 = .ok (.ifCond .eq 14, 3) := by decide +kernel
theorem d_T_open_185 : decode prog_1_method_17_code 185 = .ok (.aload_n 0, 1) := by decide +kernel
theorem d_T_open_186 : decode prog_1_method_17_code 186 = .ok (.getfield 36, 3) := by decide +kernel
theorem d_T_open_189 : decode prog_1_method_17_code 189 = .ok (.iload 9, 2) := by decide +kernel
theorem d_T_open_191 : decode prog_1_method_17_code 191 = .ok (.aaload, 1) := by decide +kernel
theorem d_T_open_192 : decode prog_1_method_17_code 192 = .ok (.iconst 0, 1) := by decide +kernel
theorem d_T_open_193 : decode prog_1_method_17_code 193 = .ok (.putfield 184, 3) := by decide +kernel
theorem d_T_open_196 : decode prog_1_method_17_code 196 = .ok (.aload_n 0, 1) := by decide +kernel
theorem d_T_open_197 : decode prog_1_method_17_code 197 = .ok (.getfield 30, 3) := by decide +kernel
theorem d_T_open_200 : decode prog_1_method_17_code 200 = .ok (.iload 8, 2) := by decide +kernel
theorem d_T_open_202 : decode prog_1_method_17_code 202 = .ok (.iload 9, 2) := by decide +kernel
theorem d_T_open_204 : decode prog_1_method_17_code 204 = .ok (.iload_n 3, 1) := by decide +kernel
theorem d_T_open_205 : decode prog_1_method_17_code 205 = .ok (.iconst 3, 1) := by decide +kernel
theorem d_T_open_206 : decode prog_1_method_17_code 206 = .ok (.iand, 1) := by decide +kernel
theorem d_T_open_207 : decode prog_1_method_17_code 207 = .ok (.invokevirtual 187, 3) := by decide +kernel
theorem d_T_open_210 : decode prog_1_method_17_code 210 = .ok (.aload_n 0, 1) := by decide +kernel
theorem d_T_open_211 : decode prog_1_method_17_code 211 = .ok (.getfield 30, 3) := by decide +kernel
theorem d_T_open_214 : decode prog_1_method_17_code 214 = .ok (.iload_n 1, 1) := by decide +kernel
theorem d_T_open_215 : decode prog_1_method_17_code 215 = .ok (.iload 7, 2) := by decide +kernel
theorem d_T_open_217 : decode prog_1_method_17_code 217 = .ok (.iload 8, 2) := by decide +kernel
theorem d_T_open_219 : decode prog_1_method_17_code 219 = .ok (.invokevirtual 190, 3) := by decide +kernel
theorem d_T_open_222 : decode prog_1_method_17_code 222 = .ok (.iload 7, 2) := by decide +kernel
theorem d_T_open_224 : decode prog_1_method_17_code 224 = .ok (.ireturn, 1) := by decide +kernel
def k_T_open_0 (G : oG) (Post : oP) : oK := o_iload 3 <| o_callS G m_T_isOpenMode 1 <| o_jmp G m_T_open Post 4 [0, 1, 2, 3]
theorem s_T_open_0 {G : oG} {Post : oP} : oS G m_T_open Post 0 (k_T_open_0 G Post) := by
  unfold k_T_open_0
  refine so_iload_n d_T_open_0 rfl ?_
  refine so_callS f_T_isOpenMode w_280 w_279 (by decide) (by decide) d_T_open_1 ?_
  exact so_jmp
def k_T_open_4 (G : oG) (Post : oP) : oK := o_ifne (o_aload 0 <| o_getf 6 0 <| o_iload 1 <| o_iload 2 <| o_callV G 0 m_M_textAt 2 <| o_jmp G m_T_open Post 19 [0, 1, 3]) (o_iconst (-22) <| o_iret Post)
theorem s_T_open_4 {G : oG} {Post : oP} : oS G m_T_open Post 4 (k_T_open_4 G Post) := by
  unfold k_T_open_4
  refine so_ifne d_T_open_4 (tgt := 10) (by decide) ?_ ?_
  · refine so_aload_n d_T_open_10 rfl ?_
    refine so_getf cl_6 (k := 0) (by decide) w_196 d_T_open_11 ?_
    refine so_iload_n d_T_open_14 rfl ?_
    refine so_iload_n d_T_open_15 rfl ?_
    refine so_callV cl_0 f_M_textAt w_283 w_284 w_282 (by decide) (by decide) d_T_open_16 ?_
    exact so_jmp
  · refine so_bipush d_T_open_7 rfl ?_
    exact so_iret d_T_open_9 rfl
def k_T_open_19 (G : oG) (Post : oP) : oK := o_lstore 4 <| o_lload 4 <| o_lconst (-1) <| o_lcmp <| o_ifne (o_aload 0 <| o_getf 6 2 <| o_lload 4 <| o_callV G 1 m_N_find 1 <| o_jmp G m_T_open Post 42 [0, 1, 3, 4]) (o_iconst (-14) <| o_iret Post)
theorem s_T_open_19 {G : oG} {Post : oP} : oS G m_T_open Post 19 (k_T_open_19 G Post) := by
  unfold k_T_open_19
  refine so_lstore d_T_open_19 (by decide) ?_
  refine so_lload d_T_open_21 ?_
  refine so_ldc2 w_296 d_T_open_23 ?_
  refine so_lcmp d_T_open_26 ?_
  refine so_ifne d_T_open_27 (tgt := 33) (by decide) ?_ ?_
  · refine so_aload_n d_T_open_33 rfl ?_
    refine so_getf cl_6 (k := 2) (by decide) w_198 d_T_open_34 ?_
    refine so_lload d_T_open_37 ?_
    refine so_callV cl_1 f_N_find w_298 w_299 w_297 (by decide) (by decide) d_T_open_39 ?_
    exact so_jmp
  · refine so_bipush d_T_open_30 rfl ?_
    exact so_iret d_T_open_32 rfl
def k_T_open_42 (G : oG) (Post : oP) : oK := o_istore 6 <| o_lload 4 <| o_lconst 0 <| o_lcmp <| o_ifeq (o_iconst (-2) <| o_iret Post) (o_iload 6 <| o_iconst (-1) <| o_icmpne (o_aload 0 <| o_getf 6 3 <| o_iload 1 <| o_iconst 0 <| o_callV G 2 m_O_leastClosed 2 <| o_jmp G m_T_open Post 75 [0, 1, 3, 4, 6]) (o_iload 3 <| o_iconst 4 <| o_iand <| o_ifne (o_aload 0 <| o_getf 6 3 <| o_iload 1 <| o_iconst 0 <| o_callV G 2 m_O_leastClosed 2 <| o_jmp G m_T_open Post 75 [0, 1, 3, 4, 6]) (o_iconst (-2) <| o_iret Post)))
theorem s_T_open_42 {G : oG} {Post : oP} : oS G m_T_open Post 42 (k_T_open_42 G Post) := by
  unfold k_T_open_42
  refine so_istore d_T_open_42 (by decide) ?_
  refine so_lload d_T_open_44 ?_
  refine so_lconst d_T_open_46 rfl ?_
  refine so_lcmp d_T_open_47 ?_
  refine so_ifeq d_T_open_48 (tgt := 63) (by decide) ?_ ?_
  · refine so_bipush d_T_open_63 rfl ?_
    exact so_iret d_T_open_65 rfl
  · refine so_iload d_T_open_51 ?_
    refine so_iconst d_T_open_53 rfl ?_
    refine so_icmpne d_T_open_54 (tgt := 66) (by decide) ?_ ?_
    · refine so_aload_n d_T_open_66 rfl ?_
      refine so_getf cl_6 (k := 3) (by decide) w_199 d_T_open_67 ?_
      refine so_iload_n d_T_open_70 rfl ?_
      refine so_iconst d_T_open_71 rfl ?_
      refine so_callV cl_2 f_O_leastClosed w_302 w_303 w_301 (by decide) (by decide) d_T_open_72 ?_
      exact so_jmp
    · refine so_iload_n d_T_open_57 rfl ?_
      refine so_iconst d_T_open_58 rfl ?_
      refine so_iand d_T_open_59 ?_
      refine so_ifne d_T_open_60 (tgt := 66) (by decide) ?_ ?_
      · refine so_aload_n d_T_open_66 rfl ?_
        refine so_getf cl_6 (k := 3) (by decide) w_199 d_T_open_67 ?_
        refine so_iload_n d_T_open_70 rfl ?_
        refine so_iconst d_T_open_71 rfl ?_
        refine so_callV cl_2 f_O_leastClosed w_302 w_303 w_301 (by decide) (by decide) d_T_open_72 ?_
        exact so_jmp
      · refine so_bipush d_T_open_63 rfl ?_
        exact so_iret d_T_open_65 rfl
def k_T_open_75 (G : oG) (Post : oP) : oK := o_istore 7 <| o_iload 7 <| o_iconst (-1) <| o_icmpne (o_aload 0 <| o_getf 6 3 <| o_iconst 0 <| o_callV G 2 m_O_leastFree 1 <| o_jmp G m_T_open Post 94 [0, 1, 3, 4, 6, 7]) (o_iconst (-24) <| o_iret Post)
theorem s_T_open_75 {G : oG} {Post : oP} : oS G m_T_open Post 75 (k_T_open_75 G Post) := by
  unfold k_T_open_75
  refine so_istore d_T_open_75 (by decide) ?_
  refine so_iload d_T_open_77 ?_
  refine so_iconst d_T_open_79 rfl ?_
  refine so_icmpne d_T_open_80 (tgt := 86) (by decide) ?_ ?_
  · refine so_aload_n d_T_open_86 rfl ?_
    refine so_getf cl_6 (k := 3) (by decide) w_199 d_T_open_87 ?_
    refine so_iconst d_T_open_90 rfl ?_
    refine so_callV cl_2 f_O_leastFree w_306 w_307 w_305 (by decide) (by decide) d_T_open_91 ?_
    exact so_jmp
  · refine so_bipush d_T_open_83 rfl ?_
    exact so_iret d_T_open_85 rfl
def k_T_open_94 (G : oG) (Post : oP) : oK := o_istore 8 <| o_iload 8 <| o_iconst (-1) <| o_icmpne (o_jmp G m_T_open Post 105 [0, 1, 3, 4, 6, 7, 8]) (o_iconst (-23) <| o_iret Post)
theorem s_T_open_94 {G : oG} {Post : oP} : oS G m_T_open Post 94 (k_T_open_94 G Post) := by
  unfold k_T_open_94
  refine so_istore d_T_open_94 (by decide) ?_
  refine so_iload d_T_open_96 ?_
  refine so_iconst d_T_open_98 rfl ?_
  refine so_icmpne d_T_open_99 (tgt := 105) (by decide) ?_ ?_
  · exact so_jmp
  · refine so_bipush d_T_open_102 rfl ?_
    exact so_iret d_T_open_104 rfl
def k_T_open_105 (G : oG) (Post : oP) : oK := o_iload 6 <| o_iconst (-1) <| o_icmpne (o_jmp G m_T_open Post 118 [0, 1, 3, 4, 6, 7, 8]) (o_aload 0 <| o_callV G 6 m_T_leastFreeFile 0 <| o_jmp G m_T_open Post 115 [0, 1, 3, 4, 6, 7, 8])
theorem s_T_open_105 {G : oG} {Post : oP} : oS G m_T_open Post 105 (k_T_open_105 G Post) := by
  unfold k_T_open_105
  refine so_iload d_T_open_105 ?_
  refine so_iconst d_T_open_107 rfl ?_
  refine so_icmpne d_T_open_108 (tgt := 118) (by decide) ?_ ?_
  · exact so_jmp
  · refine so_aload_n d_T_open_111 rfl ?_
    refine so_callV cl_6 f_T_leastFreeFile w_311 w_2 w_309 (by decide) (by decide) d_T_open_112 ?_
    exact so_jmp
def k_T_open_115 (G : oG) (Post : oP) : oK := o_jmp G m_T_open Post 128 [0, 1, 3, 4, 6, 7, 8]
theorem s_T_open_115 {G : oG} {Post : oP} : oS G m_T_open Post 115 (k_T_open_115 G Post) := by
  unfold k_T_open_115
  refine so_goto d_T_open_115 (tgt := 128) (by decide) ?_
  exact so_jmp
def k_T_open_118 (G : oG) (Post : oP) : oK := o_aload 0 <| o_getf 6 2 <| o_getf 1 1 <| o_iload 6 <| o_iald G <| o_jmp G m_T_open Post 128 [0, 1, 3, 4, 6, 7, 8]
theorem s_T_open_118 {G : oG} {Post : oP} : oS G m_T_open Post 118 (k_T_open_118 G Post) := by
  unfold k_T_open_118
  refine so_aload_n d_T_open_118 rfl ?_
  refine so_getf cl_6 (k := 2) (by decide) w_198 d_T_open_119 ?_
  refine so_getfN cl_1 (k := 1) (by decide) w_114 d_T_open_122 ?_
  refine so_iload d_T_open_125 ?_
  refine so_iald d_T_open_127 ?_
  exact so_jmp
def k_T_open_128 (G : oG) (Post : oP) : oK := o_istore 9 <| o_iload 9 <| o_iconst (-1) <| o_icmpeq (o_iconst (-28) <| o_iret Post) (o_iload 6 <| o_iconst (-1) <| o_icmpne (o_iload 6 <| o_iconst (-1) <| o_icmpne (o_jmp G m_T_open Post 172 [0, 1, 3, 6, 7, 8, 9]) (o_aload 0 <| o_getf 6 2 <| o_lload 4 <| o_iload 9 <| o_callV G 1 m_N_add 2 <| o_jmp G m_T_open Post 172 [0, 1, 3, 6, 7, 8, 9])) (o_aload 0 <| o_getf 6 2 <| o_callV G 1 m_N_isFull 0 <| o_jmp G m_T_open Post 149 [0, 1, 3, 4, 6, 7, 8, 9]))
theorem s_T_open_128 {G : oG} {Post : oP} : oS G m_T_open Post 128 (k_T_open_128 G Post) := by
  unfold k_T_open_128
  refine so_istore d_T_open_128 (by decide) ?_
  refine so_iload d_T_open_130 ?_
  refine so_iconst d_T_open_132 rfl ?_
  refine so_icmpeq d_T_open_133 (tgt := 152) (by decide) ?_ ?_
  · refine so_bipush d_T_open_152 rfl ?_
    exact so_iret d_T_open_154 rfl
  · refine so_iload d_T_open_136 ?_
    refine so_iconst d_T_open_138 rfl ?_
    refine so_icmpne d_T_open_139 (tgt := 155) (by decide) ?_ ?_
    · refine so_iload d_T_open_155 ?_
      refine so_iconst d_T_open_157 rfl ?_
      refine so_icmpne d_T_open_158 (tgt := 172) (by decide) ?_ ?_
      · exact so_jmp
      · refine so_aload_n d_T_open_161 rfl ?_
        refine so_getf cl_6 (k := 2) (by decide) w_198 d_T_open_162 ?_
        refine so_lload d_T_open_165 ?_
        refine so_iload d_T_open_167 ?_
        refine so_callV cl_1 f_N_add w_330 w_331 w_329 (by decide) (by decide) d_T_open_169 ?_
        exact so_jmp
    · refine so_aload_n d_T_open_142 rfl ?_
      refine so_getf cl_6 (k := 2) (by decide) w_198 d_T_open_143 ?_
      refine so_callV cl_1 f_N_isFull w_326 w_327 w_325 (by decide) (by decide) d_T_open_146 ?_
      exact so_jmp
def k_T_open_149 (G : oG) (Post : oP) : oK := o_ifeq (o_iload 6 <| o_iconst (-1) <| o_icmpne (o_jmp G m_T_open Post 172 [0, 1, 3, 6, 7, 8, 9]) (o_aload 0 <| o_getf 6 2 <| o_lload 4 <| o_iload 9 <| o_callV G 1 m_N_add 2 <| o_jmp G m_T_open Post 172 [0, 1, 3, 6, 7, 8, 9])) (o_iconst (-28) <| o_iret Post)
theorem s_T_open_149 {G : oG} {Post : oP} : oS G m_T_open Post 149 (k_T_open_149 G Post) := by
  unfold k_T_open_149
  refine so_ifeq d_T_open_149 (tgt := 155) (by decide) ?_ ?_
  · refine so_iload d_T_open_155 ?_
    refine so_iconst d_T_open_157 rfl ?_
    refine so_icmpne d_T_open_158 (tgt := 172) (by decide) ?_ ?_
    · exact so_jmp
    · refine so_aload_n d_T_open_161 rfl ?_
      refine so_getf cl_6 (k := 2) (by decide) w_198 d_T_open_162 ?_
      refine so_lload d_T_open_165 ?_
      refine so_iload d_T_open_167 ?_
      refine so_callV cl_1 f_N_add w_330 w_331 w_329 (by decide) (by decide) d_T_open_169 ?_
      exact so_jmp
  · refine so_bipush d_T_open_152 rfl ?_
    exact so_iret d_T_open_154 rfl
def k_T_open_172 (G : oG) (Post : oP) : oK := o_iload 6 <| o_iconst (-1) <| o_icmpeq (o_aload 0 <| o_getf 6 4 <| o_iload 9 <| o_aald 3 <| o_iconst 0 <| o_putfI 5 1 <| o_aload 0 <| o_getf 6 3 <| o_iload 8 <| o_iload 9 <| o_iload 3 <| o_iconst 3 <| o_iand <| o_callV G 2 m_O_make 3 <| o_jmp G m_T_open Post 210 [0, 1, 7, 8]) (o_iload 3 <| o_iconst 8 <| o_iand <| o_ifeq (o_aload 0 <| o_getf 6 3 <| o_iload 8 <| o_iload 9 <| o_iload 3 <| o_iconst 3 <| o_iand <| o_callV G 2 m_O_make 3 <| o_jmp G m_T_open Post 210 [0, 1, 7, 8]) (o_aload 0 <| o_getf 6 4 <| o_iload 9 <| o_aald 3 <| o_iconst 0 <| o_putfI 5 1 <| o_aload 0 <| o_getf 6 3 <| o_iload 8 <| o_iload 9 <| o_iload 3 <| o_iconst 3 <| o_iand <| o_callV G 2 m_O_make 3 <| o_jmp G m_T_open Post 210 [0, 1, 7, 8]))
theorem s_T_open_172 {G : oG} {Post : oP} : oS G m_T_open Post 172 (k_T_open_172 G Post) := by
  unfold k_T_open_172
  refine so_iload d_T_open_172 ?_
  refine so_iconst d_T_open_174 rfl ?_
  refine so_icmpeq d_T_open_175 (tgt := 185) (by decide) ?_ ?_
  · refine so_aload_n d_T_open_185 rfl ?_
    refine so_getf cl_6 (k := 4) (by decide) w_200 d_T_open_186 ?_
    refine so_iload d_T_open_189 ?_
    refine so_aald d_T_open_191 (tt := 3) rfl ?_
    refine so_iconst d_T_open_192 rfl ?_
    refine so_putfIN cl_5 (k := 1) (by decide) rfl rfl w_177 d_T_open_193 ?_
    refine so_aload_n d_T_open_196 rfl ?_
    refine so_getf cl_6 (k := 3) (by decide) w_199 d_T_open_197 ?_
    refine so_iload d_T_open_200 ?_
    refine so_iload d_T_open_202 ?_
    refine so_iload_n d_T_open_204 rfl ?_
    refine so_iconst d_T_open_205 rfl ?_
    refine so_iand d_T_open_206 ?_
    refine so_callV cl_2 f_O_make w_334 w_335 w_333 (by decide) (by decide) d_T_open_207 ?_
    exact so_jmp
  · refine so_iload_n d_T_open_178 rfl ?_
    refine so_bipush d_T_open_179 rfl ?_
    refine so_iand d_T_open_181 ?_
    refine so_ifeq d_T_open_182 (tgt := 196) (by decide) ?_ ?_
    · refine so_aload_n d_T_open_196 rfl ?_
      refine so_getf cl_6 (k := 3) (by decide) w_199 d_T_open_197 ?_
      refine so_iload d_T_open_200 ?_
      refine so_iload d_T_open_202 ?_
      refine so_iload_n d_T_open_204 rfl ?_
      refine so_iconst d_T_open_205 rfl ?_
      refine so_iand d_T_open_206 ?_
      refine so_callV cl_2 f_O_make w_334 w_335 w_333 (by decide) (by decide) d_T_open_207 ?_
      exact so_jmp
    · refine so_aload_n d_T_open_185 rfl ?_
      refine so_getf cl_6 (k := 4) (by decide) w_200 d_T_open_186 ?_
      refine so_iload d_T_open_189 ?_
      refine so_aald d_T_open_191 (tt := 3) rfl ?_
      refine so_iconst d_T_open_192 rfl ?_
      refine so_putfIN cl_5 (k := 1) (by decide) rfl rfl w_177 d_T_open_193 ?_
      refine so_aload_n d_T_open_196 rfl ?_
      refine so_getf cl_6 (k := 3) (by decide) w_199 d_T_open_197 ?_
      refine so_iload d_T_open_200 ?_
      refine so_iload d_T_open_202 ?_
      refine so_iload_n d_T_open_204 rfl ?_
      refine so_iconst d_T_open_205 rfl ?_
      refine so_iand d_T_open_206 ?_
      refine so_callV cl_2 f_O_make w_334 w_335 w_333 (by decide) (by decide) d_T_open_207 ?_
      exact so_jmp
def k_T_open_210 (G : oG) (Post : oP) : oK := o_aload 0 <| o_getf 6 3 <| o_iload 1 <| o_iload 7 <| o_iload 8 <| o_callV G 2 m_O_attach 3 <| o_jmp G m_T_open Post 222 [7]
theorem s_T_open_210 {G : oG} {Post : oP} : oS G m_T_open Post 210 (k_T_open_210 G Post) := by
  unfold k_T_open_210
  refine so_aload_n d_T_open_210 rfl ?_
  refine so_getf cl_6 (k := 3) (by decide) w_199 d_T_open_211 ?_
  refine so_iload_n d_T_open_214 rfl ?_
  refine so_iload d_T_open_215 ?_
  refine so_iload d_T_open_217 ?_
  refine so_callV cl_2 f_O_attach w_338 w_339 w_337 (by decide) (by decide) d_T_open_219 ?_
  exact so_jmp
def k_T_open_222 (G : oG) (Post : oP) : oK := o_iload 7 <| o_iret Post
theorem s_T_open_222 {G : oG} {Post : oP} : oS G m_T_open Post 222 (k_T_open_222 G Post) := by
  unfold k_T_open_222
  refine so_iload d_T_open_222 ?_
  exact so_iret d_T_open_224 rfl
theorem d_T_close_0 : decode prog_1_method_19_code 0 = .ok (.aload_n 0, 1) := by decide +kernel
theorem d_T_close_1 : decode prog_1_method_19_code 1 = .ok (.getfield 30, 3) := by decide +kernel
theorem d_T_close_4 : decode prog_1_method_19_code 4 = .ok (.iload_n 1, 1) := by decide +kernel
theorem d_T_close_5 : decode prog_1_method_19_code 5 = .ok (.iload_n 2, 1) := by decide +kernel
theorem d_T_close_6 : decode prog_1_method_19_code 6 = .ok (.invokevirtual 193, 3) := by decide +kernel
theorem d_T_close_9 : decode prog_1_method_19_code 9 = .ok (.iconst (-1), 1) := by decide +kernel
theorem d_T_close_10 : decode prog_1_method_19_code 10 = .ok (.if_icmp .ne 6, 3) := by decide +kernel
theorem d_T_close_13 : decode prog_1_method_19_code 13 = .ok (.bipush (-9), 2) := by decide +kernel
theorem d_T_close_15 : decode prog_1_method_19_code 15 = .ok (.ireturn, 1) := by decide +kernel
theorem d_T_close_16 : decode prog_1_method_19_code 16 = .ok (.aload_n 0, 1) := by decide +kernel
theorem d_T_close_17 : decode prog_1_method_19_code 17 = .ok (.getfield 30, 3) := by decide +kernel
theorem d_T_close_20 : decode prog_1_method_19_code 20 = .ok (.iload_n 1, 1) := by decide +kernel
theorem d_T_close_21 : decode prog_1_method_19_code 21 = .ok (.iload_n 2, 1) := by decide +kernel
theorem d_T_close_22 : decode prog_1_method_19_code 22 = .ok (.invokevirtual 196, 3) := by decide +kernel
theorem d_T_close_25 : decode prog_1_method_19_code 25 = .ok (.iconst 0, 1) := by decide +kernel
theorem d_T_close_26 : decode prog_1_method_19_code 26 = .ok (.ireturn, 1) := by decide +kernel
def k_T_close_0 (G : oG) (Post : oP) : oK := o_aload 0 <| o_getf 6 3 <| o_iload 1 <| o_iload 2 <| o_callV G 2 m_O_at 2 <| o_jmp G m_T_close Post 9 [0, 1, 2]
theorem s_T_close_0 {G : oG} {Post : oP} : oS G m_T_close Post 0 (k_T_close_0 G Post) := by
  unfold k_T_close_0
  refine so_aload_n d_T_close_0 rfl ?_
  refine so_getf cl_6 (k := 3) (by decide) w_199 d_T_close_1 ?_
  refine so_iload_n d_T_close_4 rfl ?_
  refine so_iload_n d_T_close_5 rfl ?_
  refine so_callV cl_2 f_O_at w_346 w_347 w_345 (by decide) (by decide) d_T_close_6 ?_
  exact so_jmp
def k_T_close_9 (G : oG) (Post : oP) : oK := o_iconst (-1) <| o_icmpne (o_aload 0 <| o_getf 6 3 <| o_iload 1 <| o_iload 2 <| o_callV G 2 m_O_detach 2 <| o_jmp G m_T_close Post 25 []) (o_iconst (-9) <| o_iret Post)
theorem s_T_close_9 {G : oG} {Post : oP} : oS G m_T_close Post 9 (k_T_close_9 G Post) := by
  unfold k_T_close_9
  refine so_iconst d_T_close_9 rfl ?_
  refine so_icmpne d_T_close_10 (tgt := 16) (by decide) ?_ ?_
  · refine so_aload_n d_T_close_16 rfl ?_
    refine so_getf cl_6 (k := 3) (by decide) w_199 d_T_close_17 ?_
    refine so_iload_n d_T_close_20 rfl ?_
    refine so_iload_n d_T_close_21 rfl ?_
    refine so_callV cl_2 f_O_detach w_351 w_352 w_350 (by decide) (by decide) d_T_close_22 ?_
    exact so_jmp
  · refine so_bipush d_T_close_13 rfl ?_
    exact so_iret d_T_close_15 rfl
def k_T_close_25 (G : oG) (Post : oP) : oK := o_iconst 0 <| o_iret Post
theorem s_T_close_25 {G : oG} {Post : oP} : oS G m_T_close Post 25 (k_T_close_25 G Post) := by
  unfold k_T_close_25
  refine so_iconst d_T_close_25 rfl ?_
  exact so_iret d_T_close_26 rfl
theorem d_T_flagFor_0 : decode prog_1_method_24_code 0 = .ok (.iload_n 0, 1) := by decide +kernel
theorem d_T_flagFor_1 : decode prog_1_method_24_code 1 = .ok (.iconst 1, 1) := by decide +kernel
theorem d_T_flagFor_2 : decode prog_1_method_24_code 2 = .ok (.if_icmp .ne 7, 3) := by decide +kernel
theorem d_T_flagFor_5 : decode prog_1_method_24_code 5 = .ok (.iconst 2, 1) := by decide +kernel
theorem d_T_flagFor_6 : decode prog_1_method_24_code 6 = .ok (.goto 4, 3) := by decide +kernel
theorem d_T_flagFor_9 : decode prog_1_method_24_code 9 = .ok (.iconst 1, 1) := by decide +kernel
theorem d_T_flagFor_10 : decode prog_1_method_24_code 10 = .ok (.ireturn, 1) := by decide +kernel
def k_T_flagFor_0 (G : oG) (Post : oP) : oK := o_iload 0 <| o_iconst 1 <| o_icmpne (o_iconst 1 <| o_iret Post) (o_iconst 2 <| o_iret Post)
theorem s_T_flagFor_0 {G : oG} {Post : oP} : oS G m_T_flagFor Post 0 (k_T_flagFor_0 G Post) := by
  unfold k_T_flagFor_0
  refine so_iload_n d_T_flagFor_0 rfl ?_
  refine so_iconst d_T_flagFor_1 rfl ?_
  refine so_icmpne d_T_flagFor_2 (tgt := 9) (by decide) ?_ ?_
  · refine so_iconst d_T_flagFor_9 rfl ?_
    exact so_iret d_T_flagFor_10 rfl
  · refine so_iconst d_T_flagFor_5 rfl ?_
    refine so_goto d_T_flagFor_6 (tgt := 10) (by decide) ?_
    exact so_iret d_T_flagFor_10 rfl
theorem d_T_takeFromPipe_0 : decode prog_1_method_28_code 0 = .ok (.aload_n 0, 1) := by decide +kernel
theorem d_T_takeFromPipe_1 : decode prog_1_method_28_code 1 = .ok (.getfield 42, 3) := by decide +kernel
theorem d_T_takeFromPipe_4 : decode prog_1_method_28_code 4 = .ok (.iload_n 1, 1) := by decide +kernel
theorem d_T_takeFromPipe_5 : decode prog_1_method_28_code 5 = .ok (.aaload, 1) := by decide +kernel
theorem d_T_takeFromPipe_6 : decode prog_1_method_28_code 6 = .ok (.astore_n 3, 1) := by decide +kernel
theorem d_T_takeFromPipe_7 : decode prog_1_method_28_code 7 = .ok (.aload_n 3, 1) := by decide +kernel
theorem d_T_takeFromPipe_8 : decode prog_1_method_28_code 8 = .ok (.getfield 266, 3) := by decide +kernel
theorem d_T_takeFromPipe_11 : decode prog_1_method_28_code 11 = .ok (.ifCond .ne 25, 3) := by decide +kernel
theorem d_T_takeFromPipe_14 : decode prog_1_method_28_code 14 = .ok (.aload_n 0, 1) := by decide +kernel
theorem d_T_takeFromPipe_15 : decode prog_1_method_28_code 15 = .ok (.getfield 30, 3) := by decide +kernel
theorem d_T_takeFromPipe_18 : decode prog_1_method_28_code 18 = .ok (.bipush 6, 2) := by decide +kernel
theorem d_T_takeFromPipe_20 : decode prog_1_method_28_code 20 = .ok (.iload_n 1, 1) := by decide +kernel
theorem d_T_takeFromPipe_21 : decode prog_1_method_28_code 21 = .ok (.iadd, 1) := by decide +kernel
theorem d_T_takeFromPipe_22 : decode prog_1_method_28_code 22 = .ok (.iconst 2, 1) := by decide +kernel
theorem d_T_takeFromPipe_23 : decode prog_1_method_28_code 23 = .ok (.invokevirtual 267, 3) := by decide +kernel
theorem d_T_takeFromPipe_26 : decode prog_1_method_28_code 26 = .ok (.ifCond .le 8, 3) := by decide +kernel
theorem d_T_takeFromPipe_29 : decode prog_1_method_28_code 29 = .ok (.bipush (-11), 2) := by decide +kernel
theorem d_T_takeFromPipe_31 : decode prog_1_method_28_code 31 = .ok (.goto 4, 3) := by decide +kernel
theorem d_T_takeFromPipe_34 : decode prog_1_method_28_code 34 = .ok (.iconst 0, 1) := by decide +kernel
theorem d_T_takeFromPipe_35 : decode prog_1_method_28_code 35 = .ok (.ireturn, 1) := by decide +kernel
theorem d_T_takeFromPipe_36 : decode prog_1_method_28_code 36 = .ok (.iload_n 2, 1) := by decide +kernel
theorem d_T_takeFromPipe_37 : decode prog_1_method_28_code 37 = .ok (.aload_n 3, 1) := by decide +kernel
theorem d_T_takeFromPipe_38 : decode prog_1_method_28_code 38 = .ok (.getfield 266, 3) := by decide +kernel
theorem d_T_takeFromPipe_41 : decode prog_1_method_28_code 41 = .ok (.invokestatic 254, 3) := by decide +kernel
theorem d_T_takeFromPipe_44 : decode prog_1_method_28_code 44 = .ok (.istore 4, 2) := by decide +kernel
theorem d_T_takeFromPipe_46 : decode prog_1_method_28_code 46 = .ok (.aload_n 3, 1) := by decide +kernel
theorem d_T_takeFromPipe_47 : decode prog_1_method_28_code 47 = .ok (.aload_n 0, 1) := by decide +kernel
theorem d_T_takeFromPipe_48 : decode prog_1_method_28_code 48 = .ok (.getfield 53, 3) := by decide +kernel
theorem d_T_takeFromPipe_51 : decode prog_1_method_28_code 51 = .ok (.iload 4, 2) := by decide +kernel
theorem d_T_takeFromPipe_53 : decode prog_1_method_28_code 53 = .ok (.invokevirtual 270, 3) := by decide +kernel
theorem d_T_takeFromPipe_56 : decode prog_1_method_28_code 56 = .ok (.iload 4, 2) := by decide +kernel
theorem d_T_takeFromPipe_58 : decode prog_1_method_28_code 58 = .ok (.ireturn, 1) := by decide +kernel
def k_T_takeFromPipe_0 (G : oG) (Post : oP) : oK := o_aload 0 <| o_getf 6 5 <| o_iload 1 <| o_aald 4 <| o_astore 3 <| o_aload 3 <| o_getf 3 1 <| o_ifne (o_iload 2 <| o_aload 3 <| o_getf 3 1 <| o_mmin <| o_istore 4 <| o_aload 3 <| o_aload 0 <| o_getf 6 7 <| o_iload 4 <| o_callV G 3 m_P_takeOut 2 <| o_jmp G m_T_takeFromPipe Post 56 [4]) (o_aload 0 <| o_getf 6 3 <| o_iconst 6 <| o_iload 1 <| o_iadd <| o_iconst 2 <| o_callV G 2 m_O_countOf 2 <| o_jmp G m_T_takeFromPipe Post 26 [])
theorem s_T_takeFromPipe_0 {G : oG} {Post : oP} : oS G m_T_takeFromPipe Post 0 (k_T_takeFromPipe_0 G Post) := by
  unfold k_T_takeFromPipe_0
  refine so_aload_n d_T_takeFromPipe_0 rfl ?_
  refine so_getf cl_6 (k := 5) (by decide) w_201 d_T_takeFromPipe_1 ?_
  refine so_iload_n d_T_takeFromPipe_4 rfl ?_
  refine so_aald d_T_takeFromPipe_5 (tt := 4) rfl ?_
  refine so_astore_n d_T_takeFromPipe_6 rfl (by decide) ?_
  refine so_aload_n d_T_takeFromPipe_7 rfl ?_
  refine so_getfN cl_3 (k := 1) (by decide) w_190 d_T_takeFromPipe_8 ?_
  refine so_ifne d_T_takeFromPipe_11 (tgt := 36) (by decide) ?_ ?_
  · refine so_iload_n d_T_takeFromPipe_36 rfl ?_
    refine so_aload_n d_T_takeFromPipe_37 rfl ?_
    refine so_getfN cl_3 (k := 1) (by decide) w_190 d_T_takeFromPipe_38 ?_
    refine so_mmin w_398 w_399 w_78 w_mathmin (by decide) (by decide) d_T_takeFromPipe_41 ?_
    refine so_istore d_T_takeFromPipe_44 (by decide) ?_
    refine so_aload_n d_T_takeFromPipe_46 rfl ?_
    refine so_aload_n d_T_takeFromPipe_47 rfl ?_
    refine so_getf cl_6 (k := 7) (by decide) w_203 d_T_takeFromPipe_48 ?_
    refine so_iload d_T_takeFromPipe_51 ?_
    refine so_callV cl_3 f_P_takeOut w_402 w_403 w_401 (by decide) (by decide) d_T_takeFromPipe_53 ?_
    exact so_jmp
  · refine so_aload_n d_T_takeFromPipe_14 rfl ?_
    refine so_getf cl_6 (k := 3) (by decide) w_199 d_T_takeFromPipe_15 ?_
    refine so_bipush d_T_takeFromPipe_18 rfl ?_
    refine so_iload_n d_T_takeFromPipe_20 rfl ?_
    refine so_iadd d_T_takeFromPipe_21 ?_
    refine so_iconst d_T_takeFromPipe_22 rfl ?_
    refine so_callV cl_2 f_O_countOf w_322 w_323 w_321 (by decide) (by decide) d_T_takeFromPipe_23 ?_
    exact so_jmp
def k_T_takeFromPipe_26 (G : oG) (Post : oP) : oK := o_ifle (o_iconst 0 <| o_iret Post) (o_iconst (-11) <| o_iret Post)
theorem s_T_takeFromPipe_26 {G : oG} {Post : oP} : oS G m_T_takeFromPipe Post 26 (k_T_takeFromPipe_26 G Post) := by
  unfold k_T_takeFromPipe_26
  refine so_ifle d_T_takeFromPipe_26 (tgt := 34) (by decide) ?_ ?_
  · refine so_iconst d_T_takeFromPipe_34 rfl ?_
    exact so_iret d_T_takeFromPipe_35 rfl
  · refine so_bipush d_T_takeFromPipe_29 rfl ?_
    refine so_goto d_T_takeFromPipe_31 (tgt := 35) (by decide) ?_
    exact so_iret d_T_takeFromPipe_35 rfl
def k_T_takeFromPipe_56 (G : oG) (Post : oP) : oK := o_iload 4 <| o_iret Post
theorem s_T_takeFromPipe_56 {G : oG} {Post : oP} : oS G m_T_takeFromPipe Post 56 (k_T_takeFromPipe_56 G Post) := by
  unfold k_T_takeFromPipe_56
  refine so_iload d_T_takeFromPipe_56 ?_
  exact so_iret d_T_takeFromPipe_58 rfl
theorem d_T_takeFromFile_0 : decode prog_1_method_27_code 0 = .ok (.aload_n 0, 1) := by decide +kernel
theorem d_T_takeFromFile_1 : decode prog_1_method_27_code 1 = .ok (.getfield 36, 3) := by decide +kernel
theorem d_T_takeFromFile_4 : decode prog_1_method_27_code 4 = .ok (.aload_n 0, 1) := by decide +kernel
theorem d_T_takeFromFile_5 : decode prog_1_method_27_code 5 = .ok (.getfield 30, 3) := by decide +kernel
theorem d_T_takeFromFile_8 : decode prog_1_method_27_code 8 = .ok (.getfield 251, 3) := by decide +kernel
theorem d_T_takeFromFile_11 : decode prog_1_method_27_code 11 = .ok (.iload_n 1, 1) := by decide +kernel
theorem d_T_takeFromFile_12 : decode prog_1_method_27_code 12 = .ok (.iaload, 1) := by decide +kernel
theorem d_T_takeFromFile_13 : decode prog_1_method_27_code 13 = .ok (.aaload, 1) := by decide +kernel
theorem d_T_takeFromFile_14 : decode prog_1_method_27_code 14 = .ok (.astore_n 3, 1) := by decide +kernel
theorem d_T_takeFromFile_15 : decode prog_1_method_27_code 15 = .ok (.aload_n 0, 1) := by decide +kernel
theorem d_T_takeFromFile_16 : decode prog_1_method_27_code 16 = .ok (.getfield 30, 3) := by decide +kernel
theorem d_T_takeFromFile_19 : decode prog_1_method_27_code 19 = .ok (.getfield 203, 3) := by decide +kernel
theorem d_T_takeFromFile_22 : decode prog_1_method_27_code 22 = .ok (.iload_n 1, 1) := by decide +kernel
theorem d_T_takeFromFile_23 : decode prog_1_method_27_code 23 = .ok (.iaload, 1) := by decide +kernel
theorem d_T_takeFromFile_24 : decode prog_1_method_27_code 24 = .ok (.istore 4, 2) := by decide +kernel
theorem d_T_takeFromFile_26 : decode prog_1_method_27_code 26 = .ok (.iconst 0, 1) := by decide +kernel
theorem d_T_takeFromFile_27 : decode prog_1_method_27_code 27 = .ok (.iload_n 2, 1) := by decide +kernel
theorem d_T_takeFromFile_28 : decode prog_1_method_27_code 28 = .ok (.aload_n 3, 1) := by decide +kernel
theorem d_T_takeFromFile_29 : decode prog_1_method_27_code 29 = .ok (.getfield 184, 3) := by decide +kernel
theorem d_T_takeFromFile_32 : decode prog_1_method_27_code 32 = .ok (.iload 4, 2) := by decide +kernel
theorem d_T_takeFromFile_34 : decode prog_1_method_27_code 34 = .ok (.isub, 1) := by decide +kernel
theorem d_T_takeFromFile_35 : decode prog_1_method_27_code 35 = .ok (.invokestatic 254, 3) := by decide +kernel
theorem d_T_takeFromFile_38 : decode prog_1_method_27_code 38 = .ok (.invokestatic 259, 3) := by decide +kernel
theorem d_T_takeFromFile_41 : decode prog_1_method_27_code 41 = .ok (.istore 5, 2) := by decide +kernel
theorem d_T_takeFromFile_43 : decode prog_1_method_27_code 43 = .ok (.aload_n 3, 1) := by decide +kernel
theorem d_T_takeFromFile_44 : decode prog_1_method_27_code 44 = .ok (.iload 4, 2) := by decide +kernel
theorem d_T_takeFromFile_46 : decode prog_1_method_27_code 46 = .ok (.aload_n 0, 1) := by decide +kernel
theorem d_T_takeFromFile_47 : decode prog_1_method_27_code 47 = .ok (.getfield 53, 3) := by decide +kernel
theorem d_T_takeFromFile_50 : decode prog_1_method_27_code 50 = .ok (.iload 5, 2) := by decide +kernel
theorem d_T_takeFromFile_52 : decode prog_1_method_27_code 52 = .ok (.invokevirtual 262, 3) := by decide +kernel
theorem d_T_takeFromFile_55 : decode prog_1_method_27_code 55 = .ok (.aload_n 0, 1) := by decide +kernel
theorem d_T_takeFromFile_56 : decode prog_1_method_27_code 56 = .ok (.getfield 30, 3) := by decide +kernel
theorem d_T_takeFromFile_59 : decode prog_1_method_27_code 59 = .ok (.getfield 203, 3) := by decide +kernel
theorem d_T_takeFromFile_62 : decode prog_1_method_27_code 62 = .ok (.iload_n 1, 1) := by decide +kernel
theorem d_T_takeFromFile_63 : decode prog_1_method_27_code 63 = .ok (.iload 4, 2) := by decide +kernel
theorem d_T_takeFromFile_65 : decode prog_1_method_27_code 65 = .ok (.iload 5, 2) := by decide +kernel
theorem d_T_takeFromFile_67 : decode prog_1_method_27_code 67 = .ok (.iadd, 1) := by decide +kernel
theorem d_T_takeFromFile_68 : decode prog_1_method_27_code 68 = .ok (.iastore, 1) := by decide +kernel
theorem d_T_takeFromFile_69 : decode prog_1_method_27_code 69 = .ok (.iload 5, 2) := by decide +kernel
theorem d_T_takeFromFile_71 : decode prog_1_method_27_code 71 = .ok (.ireturn, 1) := by decide +kernel
def k_T_takeFromFile_0 (G : oG) (Post : oP) : oK := o_aload 0 <| o_getf 6 4 <| o_aload 0 <| o_getf 6 3 <| o_getf 2 2 <| o_iload 1 <| o_iald G <| o_aald 3 <| o_astore 3 <| o_aload 0 <| o_getf 6 3 <| o_getf 2 4 <| o_iload 1 <| o_iald G <| o_istore 4 <| o_iconst 0 <| o_iload 2 <| o_aload 3 <| o_getf 5 1 <| o_iload 4 <| o_isub <| o_mmin <| o_mmax <| o_istore 5 <| o_aload 3 <| o_iload 4 <| o_aload 0 <| o_getf 6 7 <| o_iload 5 <| o_callV G 5 m_F_copyOut 3 <| o_jmp G m_T_takeFromFile Post 55 [0, 1, 4, 5]
theorem s_T_takeFromFile_0 {G : oG} {Post : oP} : oS G m_T_takeFromFile Post 0 (k_T_takeFromFile_0 G Post) := by
  unfold k_T_takeFromFile_0
  refine so_aload_n d_T_takeFromFile_0 rfl ?_
  refine so_getf cl_6 (k := 4) (by decide) w_200 d_T_takeFromFile_1 ?_
  refine so_aload_n d_T_takeFromFile_4 rfl ?_
  refine so_getf cl_6 (k := 3) (by decide) w_199 d_T_takeFromFile_5 ?_
  refine so_getfN cl_2 (k := 2) (by decide) w_135 d_T_takeFromFile_8 ?_
  refine so_iload_n d_T_takeFromFile_11 rfl ?_
  refine so_iald d_T_takeFromFile_12 ?_
  refine so_aald d_T_takeFromFile_13 (tt := 3) rfl ?_
  refine so_astore_n d_T_takeFromFile_14 rfl (by decide) ?_
  refine so_aload_n d_T_takeFromFile_15 rfl ?_
  refine so_getf cl_6 (k := 3) (by decide) w_199 d_T_takeFromFile_16 ?_
  refine so_getfN cl_2 (k := 4) (by decide) w_138 d_T_takeFromFile_19 ?_
  refine so_iload_n d_T_takeFromFile_22 rfl ?_
  refine so_iald d_T_takeFromFile_23 ?_
  refine so_istore d_T_takeFromFile_24 (by decide) ?_
  refine so_iconst d_T_takeFromFile_26 rfl ?_
  refine so_iload_n d_T_takeFromFile_27 rfl ?_
  refine so_aload_n d_T_takeFromFile_28 rfl ?_
  refine so_getfN cl_5 (k := 1) (by decide) w_177 d_T_takeFromFile_29 ?_
  refine so_iload d_T_takeFromFile_32 ?_
  refine so_isub d_T_takeFromFile_34 ?_
  refine so_mmin w_398 w_399 w_78 w_mathmin (by decide) (by decide) d_T_takeFromFile_35 ?_
  refine so_mmax w_409 w_410 w_78 w_mathmax (by decide) (by decide) d_T_takeFromFile_38 ?_
  refine so_istore d_T_takeFromFile_41 (by decide) ?_
  refine so_aload_n d_T_takeFromFile_43 rfl ?_
  refine so_iload d_T_takeFromFile_44 ?_
  refine so_aload_n d_T_takeFromFile_46 rfl ?_
  refine so_getf cl_6 (k := 7) (by decide) w_203 d_T_takeFromFile_47 ?_
  refine so_iload d_T_takeFromFile_50 ?_
  refine so_callV cl_5 f_F_copyOut w_413 w_414 w_412 (by decide) (by decide) d_T_takeFromFile_52 ?_
  exact so_jmp
def k_T_takeFromFile_55 (G : oG) (Post : oP) : oK := o_aload 0 <| o_getf 6 3 <| o_getf 2 4 <| o_iload 1 <| o_iload 4 <| o_iload 5 <| o_iadd <| o_iast <| o_iload 5 <| o_iret Post
theorem s_T_takeFromFile_55 {G : oG} {Post : oP} : oS G m_T_takeFromFile Post 55 (k_T_takeFromFile_55 G Post) := by
  unfold k_T_takeFromFile_55
  refine so_aload_n d_T_takeFromFile_55 rfl ?_
  refine so_getf cl_6 (k := 3) (by decide) w_199 d_T_takeFromFile_56 ?_
  refine so_getfN cl_2 (k := 4) (by decide) w_138 d_T_takeFromFile_59 ?_
  refine so_iload_n d_T_takeFromFile_62 rfl ?_
  refine so_iload d_T_takeFromFile_63 ?_
  refine so_iload d_T_takeFromFile_65 ?_
  refine so_iadd d_T_takeFromFile_67 ?_
  refine so_iast d_T_takeFromFile_68 ?_
  refine so_iload d_T_takeFromFile_69 ?_
  exact so_iret d_T_takeFromFile_71 rfl
theorem d_T_scatter_0 : decode prog_1_method_32_code 0 = .ok (.iconst 0, 1) := by decide +kernel
theorem d_T_scatter_1 : decode prog_1_method_32_code 1 = .ok (.istore_n 3, 1) := by decide +kernel
theorem d_T_scatter_2 : decode prog_1_method_32_code 2 = .ok (.iload_n 3, 1) := by decide +kernel
theorem d_T_scatter_3 : decode prog_1_method_32_code 3 = .ok (.iload_n 2, 1) := by decide +kernel
theorem d_T_scatter_4 : decode prog_1_method_32_code 4 = .ok (.if_icmp .ge 31, 3) := by decide +kernel
theorem d_T_scatter_7 : decode prog_1_method_32_code 7 = .ok (.aload_n 0, 1) := by decide +kernel
theorem d_T_scatter_8 : decode prog_1_method_32_code 8 = .ok (.getfield 12, 3) := by decide +kernel
theorem d_T_scatter_11 : decode prog_1_method_32_code 11 = .ok (.iload_n 1, 1) := by decide +kernel
theorem d_T_scatter_12 : decode prog_1_method_32_code 12 = .ok (.aload_n 0, 1) := by decide +kernel
theorem d_T_scatter_13 : decode prog_1_method_32_code 13 = .ok (.getfield 49, 3) := by decide +kernel
theorem d_T_scatter_16 : decode prog_1_method_32_code 16 = .ok (.iload_n 3, 1) := by decide +kernel
theorem d_T_scatter_17 : decode prog_1_method_32_code 17 = .ok (.invokevirtual 288, 3) := by decide +kernel
theorem d_T_scatter_20 : decode prog_1_method_32_code 20 = .ok (.aload_n 0, 1) := by decide +kernel
theorem d_T_scatter_21 : decode prog_1_method_32_code 21 = .ok (.getfield 53, 3) := by decide +kernel
theorem d_T_scatter_24 : decode prog_1_method_32_code 24 = .ok (.iload_n 3, 1) := by decide +kernel
theorem d_T_scatter_25 : decode prog_1_method_32_code 25 = .ok (.iaload, 1) := by decide +kernel
theorem d_T_scatter_26 : decode prog_1_method_32_code 26 = .ok (.invokevirtual 291, 3) := by decide +kernel
theorem d_T_scatter_29 : decode prog_1_method_32_code 29 = .ok (.iinc 3 1, 3) := by decide +kernel
theorem d_T_scatter_32 : decode prog_1_method_32_code 32 = .ok (.goto (-30), 3) := by decide +kernel
theorem d_T_scatter_35 : decode prog_1_method_32_code 35 = .ok (.return_, 1) := by decide +kernel
def k_T_scatter_0 (G : oG) (Post : oP) : oK := o_iconst 0 <| o_istore 3 <| o_jmp G m_T_scatter Post 2 [0, 1, 2, 3]
theorem s_T_scatter_0 {G : oG} {Post : oP} : oS G m_T_scatter Post 0 (k_T_scatter_0 G Post) := by
  unfold k_T_scatter_0
  refine so_iconst d_T_scatter_0 rfl ?_
  refine so_istore_n d_T_scatter_1 rfl (by decide) ?_
  exact so_jmp
def k_T_scatter_2 (G : oG) (Post : oP) : oK := o_iload 3 <| o_iload 2 <| o_icmpge (o_vret Post) (o_aload 0 <| o_getf 6 0 <| o_iload 1 <| o_aload 0 <| o_getf 6 6 <| o_iload 3 <| o_callV G 4 m_R_addressOf 1 <| o_jmp G m_T_scatter Post 20 [0, 1, 2, 3])
theorem s_T_scatter_2 {G : oG} {Post : oP} : oS G m_T_scatter Post 2 (k_T_scatter_2 G Post) := by
  unfold k_T_scatter_2
  refine so_iload_n d_T_scatter_2 rfl ?_
  refine so_iload_n d_T_scatter_3 rfl ?_
  refine so_icmpge d_T_scatter_4 (tgt := 35) (by decide) ?_ ?_
  · exact so_vret d_T_scatter_35 rfl
  · refine so_aload_n d_T_scatter_7 rfl ?_
    refine so_getf cl_6 (k := 0) (by decide) w_196 d_T_scatter_8 ?_
    refine so_iload_n d_T_scatter_11 rfl ?_
    refine so_aload_n d_T_scatter_12 rfl ?_
    refine so_getf cl_6 (k := 6) (by decide) w_202 d_T_scatter_13 ?_
    refine so_iload_n d_T_scatter_16 rfl ?_
    refine so_callV cl_4 f_R_addressOf w_421 w_422 w_420 (by decide) (by decide) d_T_scatter_17 ?_
    exact so_jmp
def k_T_scatter_20 (G : oG) (Post : oP) : oK := o_aload 0 <| o_getf 6 7 <| o_iload 3 <| o_iald G <| o_callV G 0 m_M_store 3 <| o_jmp G m_T_scatter Post 29 [0, 1, 2, 3]
theorem s_T_scatter_20 {G : oG} {Post : oP} : oS G m_T_scatter Post 20 (k_T_scatter_20 G Post) := by
  unfold k_T_scatter_20
  refine so_aload_n d_T_scatter_20 rfl ?_
  refine so_getf cl_6 (k := 7) (by decide) w_203 d_T_scatter_21 ?_
  refine so_iload_n d_T_scatter_24 rfl ?_
  refine so_iald d_T_scatter_25 ?_
  refine so_callV cl_0 f_M_store w_425 w_426 w_424 (by decide) (by decide) d_T_scatter_26 ?_
  exact so_jmp
def k_T_scatter_29 (G : oG) (Post : oP) : oK := o_iinc 3 1 <| o_jmp G m_T_scatter Post 2 [0, 1, 2, 3]
theorem s_T_scatter_29 {G : oG} {Post : oP} : oS G m_T_scatter Post 29 (k_T_scatter_29 G Post) := by
  unfold k_T_scatter_29
  refine so_iinc d_T_scatter_29 rfl (by decide) ?_
  refine so_goto d_T_scatter_32 (tgt := 2) (by decide) ?_
  exact so_jmp
theorem d_T_readOpen_0 : decode prog_1_method_26_code 0 = .ok (.aload_n 0, 1) := by decide +kernel
theorem d_T_readOpen_1 : decode prog_1_method_26_code 1 = .ok (.getfield 49, 3) := by decide +kernel
theorem d_T_readOpen_4 : decode prog_1_method_26_code 4 = .ok (.invokevirtual 236, 3) := by decide +kernel
theorem d_T_readOpen_7 : decode prog_1_method_26_code 7 = .ok (.istore_n 3, 1) := by decide +kernel
theorem d_T_readOpen_8 : decode prog_1_method_26_code 8 = .ok (.iload_n 3, 1) := by decide +kernel
theorem d_T_readOpen_9 : decode prog_1_method_26_code 9 = .ok (.ifCond .ne 5, 3) := by decide +kernel
theorem d_T_readOpen_12 : decode prog_1_method_26_code 12 = .ok (.iconst 0, 1) := by decide +kernel
theorem d_T_readOpen_13 : decode prog_1_method_26_code 13 = .ok (.ireturn, 1) := by decide +kernel
theorem d_T_readOpen_14 : decode prog_1_method_26_code 14 = .ok (.aload_n 0, 1) := by decide +kernel
theorem d_T_readOpen_15 : decode prog_1_method_26_code 15 = .ok (.getfield 30, 3) := by decide +kernel
theorem d_T_readOpen_18 : decode prog_1_method_26_code 18 = .ok (.iload_n 2, 1) := by decide +kernel
theorem d_T_readOpen_19 : decode prog_1_method_26_code 19 = .ok (.invokevirtual 200, 3) := by decide +kernel
theorem d_T_readOpen_22 : decode prog_1_method_26_code 22 = .ok (.ifCond .eq 19, 3) := by decide +kernel
theorem d_T_readOpen_25 : decode prog_1_method_26_code 25 = .ok (.aload_n 0, 1) := by decide +kernel
theorem d_T_readOpen_26 : decode prog_1_method_26_code 26 = .ok (.aload_n 0, 1) := by decide +kernel
theorem d_T_readOpen_27 : decode prog_1_method_26_code 27 = .ok (.getfield 30, 3) := by decide +kernel
theorem d_T_readOpen_30 : decode prog_1_method_26_code 30 = .ok (.iload_n 2, 1) := by decide +kernel
theorem d_T_readOpen_31 : decode prog_1_method_26_code 31 = .ok (.invokevirtual 239, 3) := by decide +kernel
theorem d_T_readOpen_34 : decode prog_1_method_26_code 34 = .ok (.iload_n 3, 1) := by decide +kernel
theorem d_T_readOpen_35 : decode prog_1_method_26_code 35 = .ok (.invokevirtual 242, 3) := by decide +kernel
theorem d_T_readOpen_38 : decode prog_1_method_26_code 38 = .ok (.goto 9, 3) := by decide +kernel
theorem d_T_readOpen_41 : decode prog_1_method_26_code 41 = .ok (.aload_n 0, 1) := by decide +kernel
theorem d_T_readOpen_42 : decode prog_1_method_26_code 42 = .ok (.iload_n 2, 1) := by decide +kernel
theorem d_T_readOpen_43 : decode prog_1_method_26_code 43 = .ok (.iload_n 3, 1) := by decide +kernel
theorem d_T_readOpen_44 : decode prog_1_method_26_code 44 = .ok (.invokevirtual 245, 3) := by decide +kernel
theorem d_T_readOpen_47 : decode prog_1_method_26_code 47 = .ok (.istore 4, 2) := by decide +kernel
theorem d_T_readOpen_49 : decode prog_1_method_26_code 49 = .ok (.aload_n 0, 1) := by decide +kernel
theorem d_T_readOpen_50 : decode prog_1_method_26_code 50 = .ok (.iload_n 1, 1) := by decide +kernel
theorem d_T_readOpen_51 : decode prog_1_method_26_code 51 = .ok (.iload 4, 2) := by decide +kernel
theorem d_T_readOpen_53 : decode prog_1_method_26_code 53 = .ok (.invokevirtual 248, 3) := by decide +kernel
theorem d_T_readOpen_56 : decode prog_1_method_26_code 56 = .ok (.iload 4, 2) := by decide +kernel
theorem d_T_readOpen_58 : decode prog_1_method_26_code 58 = .ok (.ireturn, 1) := by decide +kernel
def k_T_readOpen_0 (G : oG) (Post : oP) : oK := o_aload 0 <| o_getf 6 6 <| o_callV G 4 m_R_total 0 <| o_jmp G m_T_readOpen Post 7 [0, 1, 2]
theorem s_T_readOpen_0 {G : oG} {Post : oP} : oS G m_T_readOpen Post 0 (k_T_readOpen_0 G Post) := by
  unfold k_T_readOpen_0
  refine so_aload_n d_T_readOpen_0 rfl ?_
  refine so_getf cl_6 (k := 6) (by decide) w_202 d_T_readOpen_1 ?_
  refine so_callV cl_4 f_R_total w_383 w_384 w_382 (by decide) (by decide) d_T_readOpen_4 ?_
  exact so_jmp
def k_T_readOpen_7 (G : oG) (Post : oP) : oK := o_istore 3 <| o_iload 3 <| o_ifne (o_aload 0 <| o_getf 6 3 <| o_iload 2 <| o_callV G 2 m_O_isOfPipe 1 <| o_jmp G m_T_readOpen Post 22 [0, 1, 2, 3]) (o_iconst 0 <| o_iret Post)
theorem s_T_readOpen_7 {G : oG} {Post : oP} : oS G m_T_readOpen Post 7 (k_T_readOpen_7 G Post) := by
  unfold k_T_readOpen_7
  refine so_istore_n d_T_readOpen_7 rfl (by decide) ?_
  refine so_iload_n d_T_readOpen_8 rfl ?_
  refine so_ifne d_T_readOpen_9 (tgt := 14) (by decide) ?_ ?_
  · refine so_aload_n d_T_readOpen_14 rfl ?_
    refine so_getf cl_6 (k := 3) (by decide) w_199 d_T_readOpen_15 ?_
    refine so_iload_n d_T_readOpen_18 rfl ?_
    refine so_callV cl_2 f_O_isOfPipe w_387 w_388 w_386 (by decide) (by decide) d_T_readOpen_19 ?_
    exact so_jmp
  · refine so_iconst d_T_readOpen_12 rfl ?_
    exact so_iret d_T_readOpen_13 rfl
def k_T_readOpen_22 (G : oG) (Post : oP) : oK := o_ifeq (o_aload 0 <| o_iload 2 <| o_iload 3 <| o_callV G 6 m_T_takeFromFile 2 <| o_jmp G m_T_readOpen Post 47 [0, 1]) (o_aload 0 <| o_aload 0 <| o_getf 6 3 <| o_iload 2 <| o_callV G 2 m_O_pipeOf 1 <| o_jmp G m_T_readOpen Post 34 [0, 1, 3])
theorem s_T_readOpen_22 {G : oG} {Post : oP} : oS G m_T_readOpen Post 22 (k_T_readOpen_22 G Post) := by
  unfold k_T_readOpen_22
  refine so_ifeq d_T_readOpen_22 (tgt := 41) (by decide) ?_ ?_
  · refine so_aload_n d_T_readOpen_41 rfl ?_
    refine so_iload_n d_T_readOpen_42 rfl ?_
    refine so_iload_n d_T_readOpen_43 rfl ?_
    refine so_callV cl_6 f_T_takeFromFile w_407 w_8 w_405 (by decide) (by decide) d_T_readOpen_44 ?_
    exact so_jmp
  · refine so_aload_n d_T_readOpen_25 rfl ?_
    refine so_aload_n d_T_readOpen_26 rfl ?_
    refine so_getf cl_6 (k := 3) (by decide) w_199 d_T_readOpen_27 ?_
    refine so_iload_n d_T_readOpen_30 rfl ?_
    refine so_callV cl_2 f_O_pipeOf w_391 w_392 w_390 (by decide) (by decide) d_T_readOpen_31 ?_
    exact so_jmp
def k_T_readOpen_34 (G : oG) (Post : oP) : oK := o_iload 3 <| o_callV G 6 m_T_takeFromPipe 2 <| o_jmp G m_T_readOpen Post 38 [0, 1]
theorem s_T_readOpen_34 {G : oG} {Post : oP} : oS G m_T_readOpen Post 34 (k_T_readOpen_34 G Post) := by
  unfold k_T_readOpen_34
  refine so_iload_n d_T_readOpen_34 rfl ?_
  refine so_callV cl_6 f_T_takeFromPipe w_396 w_7 w_394 (by decide) (by decide) d_T_readOpen_35 ?_
  exact so_jmp
def k_T_readOpen_38 (G : oG) (Post : oP) : oK := o_jmp G m_T_readOpen Post 47 [0, 1]
theorem s_T_readOpen_38 {G : oG} {Post : oP} : oS G m_T_readOpen Post 38 (k_T_readOpen_38 G Post) := by
  unfold k_T_readOpen_38
  refine so_goto d_T_readOpen_38 (tgt := 47) (by decide) ?_
  exact so_jmp
def k_T_readOpen_47 (G : oG) (Post : oP) : oK := o_istore 4 <| o_aload 0 <| o_iload 1 <| o_iload 4 <| o_callV G 6 m_T_scatter 2 <| o_jmp G m_T_readOpen Post 56 [4]
theorem s_T_readOpen_47 {G : oG} {Post : oP} : oS G m_T_readOpen Post 47 (k_T_readOpen_47 G Post) := by
  unfold k_T_readOpen_47
  refine so_istore d_T_readOpen_47 (by decide) ?_
  refine so_aload_n d_T_readOpen_49 rfl ?_
  refine so_iload_n d_T_readOpen_50 rfl ?_
  refine so_iload d_T_readOpen_51 ?_
  refine so_callV cl_6 f_T_scatter w_418 w_9 w_416 (by decide) (by decide) d_T_readOpen_53 ?_
  exact so_jmp
def k_T_readOpen_56 (G : oG) (Post : oP) : oK := o_iload 4 <| o_iret Post
theorem s_T_readOpen_56 {G : oG} {Post : oP} : oS G m_T_readOpen Post 56 (k_T_readOpen_56 G Post) := by
  unfold k_T_readOpen_56
  refine so_iload d_T_readOpen_56 ?_
  exact so_iret d_T_readOpen_58 rfl
theorem d_T_gather_0 : decode prog_1_method_33_code 0 = .ok (.iconst 0, 1) := by decide +kernel
theorem d_T_gather_1 : decode prog_1_method_33_code 1 = .ok (.istore_n 3, 1) := by decide +kernel
theorem d_T_gather_2 : decode prog_1_method_33_code 2 = .ok (.iload_n 3, 1) := by decide +kernel
theorem d_T_gather_3 : decode prog_1_method_33_code 3 = .ok (.iload_n 2, 1) := by decide +kernel
theorem d_T_gather_4 : decode prog_1_method_33_code 4 = .ok (.if_icmp .ge 31, 3) := by decide +kernel
theorem d_T_gather_7 : decode prog_1_method_33_code 7 = .ok (.aload_n 0, 1) := by decide +kernel
theorem d_T_gather_8 : decode prog_1_method_33_code 8 = .ok (.getfield 53, 3) := by decide +kernel
theorem d_T_gather_11 : decode prog_1_method_33_code 11 = .ok (.iload_n 3, 1) := by decide +kernel
theorem d_T_gather_12 : decode prog_1_method_33_code 12 = .ok (.aload_n 0, 1) := by decide +kernel
theorem d_T_gather_13 : decode prog_1_method_33_code 13 = .ok (.getfield 12, 3) := by decide +kernel
theorem d_T_gather_16 : decode prog_1_method_33_code 16 = .ok (.iload_n 1, 1) := by decide +kernel
theorem d_T_gather_17 : decode prog_1_method_33_code 17 = .ok (.aload_n 0, 1) := by decide +kernel
theorem d_T_gather_18 : decode prog_1_method_33_code 18 = .ok (.getfield 49, 3) := by decide +kernel
theorem d_T_gather_21 : decode prog_1_method_33_code 21 = .ok (.iload_n 3, 1) := by decide +kernel
theorem d_T_gather_22 : decode prog_1_method_33_code 22 = .ok (.invokevirtual 288, 3) := by decide +kernel
theorem d_T_gather_25 : decode prog_1_method_33_code 25 = .ok (.invokevirtual 231, 3) := by decide +kernel
theorem d_T_gather_28 : decode prog_1_method_33_code 28 = .ok (.iastore, 1) := by decide +kernel
theorem d_T_gather_29 : decode prog_1_method_33_code 29 = .ok (.iinc 3 1, 3) := by decide +kernel
theorem d_T_gather_32 : decode prog_1_method_33_code 32 = .ok (.goto (-30), 3) := by decide +kernel
theorem d_T_gather_35 : decode prog_1_method_33_code 35 = .ok (.return_, 1) := by decide +kernel
def k_T_gather_0 (G : oG) (Post : oP) : oK := o_iconst 0 <| o_istore 3 <| o_jmp G m_T_gather Post 2 [0, 1, 2, 3]
theorem s_T_gather_0 {G : oG} {Post : oP} : oS G m_T_gather Post 0 (k_T_gather_0 G Post) := by
  unfold k_T_gather_0
  refine so_iconst d_T_gather_0 rfl ?_
  refine so_istore_n d_T_gather_1 rfl (by decide) ?_
  exact so_jmp
def k_T_gather_2 (G : oG) (Post : oP) : oK := o_iload 3 <| o_iload 2 <| o_icmpge (o_vret Post) (o_aload 0 <| o_getf 6 7 <| o_iload 3 <| o_aload 0 <| o_getf 6 0 <| o_iload 1 <| o_aload 0 <| o_getf 6 6 <| o_iload 3 <| o_callV G 4 m_R_addressOf 1 <| o_jmp G m_T_gather Post 25 [0, 1, 2, 3])
theorem s_T_gather_2 {G : oG} {Post : oP} : oS G m_T_gather Post 2 (k_T_gather_2 G Post) := by
  unfold k_T_gather_2
  refine so_iload_n d_T_gather_2 rfl ?_
  refine so_iload_n d_T_gather_3 rfl ?_
  refine so_icmpge d_T_gather_4 (tgt := 35) (by decide) ?_ ?_
  · exact so_vret d_T_gather_35 rfl
  · refine so_aload_n d_T_gather_7 rfl ?_
    refine so_getf cl_6 (k := 7) (by decide) w_203 d_T_gather_8 ?_
    refine so_iload_n d_T_gather_11 rfl ?_
    refine so_aload_n d_T_gather_12 rfl ?_
    refine so_getf cl_6 (k := 0) (by decide) w_196 d_T_gather_13 ?_
    refine so_iload_n d_T_gather_16 rfl ?_
    refine so_aload_n d_T_gather_17 rfl ?_
    refine so_getf cl_6 (k := 6) (by decide) w_202 d_T_gather_18 ?_
    refine so_iload_n d_T_gather_21 rfl ?_
    refine so_callV cl_4 f_R_addressOf w_421 w_422 w_420 (by decide) (by decide) d_T_gather_22 ?_
    exact so_jmp
def k_T_gather_25 (G : oG) (Post : oP) : oK := o_callV G 0 m_M_load 2 <| o_jmp G m_T_gather Post 28 [0, 1, 2, 3]
theorem s_T_gather_25 {G : oG} {Post : oP} : oS G m_T_gather Post 25 (k_T_gather_25 G Post) := by
  unfold k_T_gather_25
  refine so_callV cl_0 f_M_load w_293 w_294 w_436 (by decide) (by decide) d_T_gather_25 ?_
  exact so_jmp
def k_T_gather_28 (G : oG) (Post : oP) : oK := o_iast <| o_iinc 3 1 <| o_jmp G m_T_gather Post 2 [0, 1, 2, 3]
theorem s_T_gather_28 {G : oG} {Post : oP} : oS G m_T_gather Post 28 (k_T_gather_28 G Post) := by
  unfold k_T_gather_28
  refine so_iast d_T_gather_28 ?_
  refine so_iinc d_T_gather_29 rfl (by decide) ?_
  refine so_goto d_T_gather_32 (tgt := 2) (by decide) ?_
  exact so_jmp
theorem d_T_putInPipe_0 : decode prog_1_method_31_code 0 = .ok (.aload_n 0, 1) := by decide +kernel
theorem d_T_putInPipe_1 : decode prog_1_method_31_code 1 = .ok (.getfield 42, 3) := by decide +kernel
theorem d_T_putInPipe_4 : decode prog_1_method_31_code 4 = .ok (.iload_n 1, 1) := by decide +kernel
theorem d_T_putInPipe_5 : decode prog_1_method_31_code 5 = .ok (.aaload, 1) := by decide +kernel
theorem d_T_putInPipe_6 : decode prog_1_method_31_code 6 = .ok (.astore_n 3, 1) := by decide +kernel
theorem d_T_putInPipe_7 : decode prog_1_method_31_code 7 = .ok (.aload_n 0, 1) := by decide +kernel
theorem d_T_putInPipe_8 : decode prog_1_method_31_code 8 = .ok (.getfield 30, 3) := by decide +kernel
theorem d_T_putInPipe_11 : decode prog_1_method_31_code 11 = .ok (.bipush 6, 2) := by decide +kernel
theorem d_T_putInPipe_13 : decode prog_1_method_31_code 13 = .ok (.iload_n 1, 1) := by decide +kernel
theorem d_T_putInPipe_14 : decode prog_1_method_31_code 14 = .ok (.iadd, 1) := by decide +kernel
theorem d_T_putInPipe_15 : decode prog_1_method_31_code 15 = .ok (.iconst 1, 1) := by decide +kernel
theorem d_T_putInPipe_16 : decode prog_1_method_31_code 16 = .ok (.invokevirtual 267, 3) := by decide +kernel
theorem d_T_putInPipe_19 : decode prog_1_method_31_code 19 = .ok (.ifCond .ne 6, 3) := by decide +kernel
theorem d_T_putInPipe_22 : decode prog_1_method_31_code 22 = .ok (.bipush (-32), 2) := by decide +kernel
theorem d_T_putInPipe_24 : decode prog_1_method_31_code 24 = .ok (.ireturn, 1) := by decide +kernel
theorem d_T_putInPipe_25 : decode prog_1_method_31_code 25 = .ok (.aload_n 3, 1) := by decide +kernel
theorem d_T_putInPipe_26 : decode prog_1_method_31_code 26 = .ok (.getfield 266, 3) := by decide +kernel
theorem d_T_putInPipe_29 : decode prog_1_method_31_code 29 = .ok (.bipush 8, 2) := by decide +kernel
theorem d_T_putInPipe_31 : decode prog_1_method_31_code 31 = .ok (.if_icmp .ne 6, 3) := by decide +kernel
theorem d_T_putInPipe_34 : decode prog_1_method_31_code 34 = .ok (.bipush (-11), 2) := by decide +kernel
theorem d_T_putInPipe_36 : decode prog_1_method_31_code 36 = .ok (.ireturn, 1) := by decide +kernel
theorem d_T_putInPipe_37 : decode prog_1_method_31_code 37 = .ok (.iload_n 2, 1) := by decide +kernel
theorem d_T_putInPipe_38 : decode prog_1_method_31_code 38 = .ok (.bipush 8, 2) := by decide +kernel
theorem d_T_putInPipe_40 : decode prog_1_method_31_code 40 = .ok (.aload_n 3, 1) := by decide +kernel
theorem d_T_putInPipe_41 : decode prog_1_method_31_code 41 = .ok (.getfield 266, 3) := by decide +kernel
theorem d_T_putInPipe_44 : decode prog_1_method_31_code 44 = .ok (.isub, 1) := by decide +kernel
theorem d_T_putInPipe_45 : decode prog_1_method_31_code 45 = .ok (.invokestatic 254, 3) := by decide +kernel
theorem d_T_putInPipe_48 : decode prog_1_method_31_code 48 = .ok (.istore 4, 2) := by decide +kernel
theorem d_T_putInPipe_50 : decode prog_1_method_31_code 50 = .ok (.aload_n 3, 1) := by decide +kernel
theorem d_T_putInPipe_51 : decode prog_1_method_31_code 51 = .ok (.aload_n 0, 1) := by decide +kernel
theorem d_T_putInPipe_52 : decode prog_1_method_31_code 52 = .ok (.getfield 53, 3) := by decide +kernel
theorem d_T_putInPipe_55 : decode prog_1_method_31_code 55 = .ok (.iload 4, 2) := by decide +kernel
theorem d_T_putInPipe_57 : decode prog_1_method_31_code 57 = .ok (.invokevirtual 286, 3) := by decide +kernel
theorem d_T_putInPipe_60 : decode prog_1_method_31_code 60 = .ok (.iload 4, 2) := by decide +kernel
theorem d_T_putInPipe_62 : decode prog_1_method_31_code 62 = .ok (.ireturn, 1) := by decide +kernel
def k_T_putInPipe_0 (G : oG) (Post : oP) : oK := o_aload 0 <| o_getf 6 5 <| o_iload 1 <| o_aald 4 <| o_astore 3 <| o_aload 0 <| o_getf 6 3 <| o_iconst 6 <| o_iload 1 <| o_iadd <| o_iconst 1 <| o_callV G 2 m_O_countOf 2 <| o_jmp G m_T_putInPipe Post 19 [0, 2, 3]
theorem s_T_putInPipe_0 {G : oG} {Post : oP} : oS G m_T_putInPipe Post 0 (k_T_putInPipe_0 G Post) := by
  unfold k_T_putInPipe_0
  refine so_aload_n d_T_putInPipe_0 rfl ?_
  refine so_getf cl_6 (k := 5) (by decide) w_201 d_T_putInPipe_1 ?_
  refine so_iload_n d_T_putInPipe_4 rfl ?_
  refine so_aald d_T_putInPipe_5 (tt := 4) rfl ?_
  refine so_astore_n d_T_putInPipe_6 rfl (by decide) ?_
  refine so_aload_n d_T_putInPipe_7 rfl ?_
  refine so_getf cl_6 (k := 3) (by decide) w_199 d_T_putInPipe_8 ?_
  refine so_bipush d_T_putInPipe_11 rfl ?_
  refine so_iload_n d_T_putInPipe_13 rfl ?_
  refine so_iadd d_T_putInPipe_14 ?_
  refine so_iconst d_T_putInPipe_15 rfl ?_
  refine so_callV cl_2 f_O_countOf w_322 w_323 w_321 (by decide) (by decide) d_T_putInPipe_16 ?_
  exact so_jmp
def k_T_putInPipe_19 (G : oG) (Post : oP) : oK := o_ifne (o_jmp G m_T_putInPipe Post 25 [0, 2, 3]) (o_iconst (-32) <| o_iret Post)
theorem s_T_putInPipe_19 {G : oG} {Post : oP} : oS G m_T_putInPipe Post 19 (k_T_putInPipe_19 G Post) := by
  unfold k_T_putInPipe_19
  refine so_ifne d_T_putInPipe_19 (tgt := 25) (by decide) ?_ ?_
  · exact so_jmp
  · refine so_bipush d_T_putInPipe_22 rfl ?_
    exact so_iret d_T_putInPipe_24 rfl
def k_T_putInPipe_25 (G : oG) (Post : oP) : oK := o_aload 3 <| o_getf 3 1 <| o_iconst 8 <| o_icmpne (o_iload 2 <| o_iconst 8 <| o_aload 3 <| o_getf 3 1 <| o_isub <| o_mmin <| o_istore 4 <| o_aload 3 <| o_aload 0 <| o_getf 6 7 <| o_iload 4 <| o_callV G 3 m_P_putIn 2 <| o_jmp G m_T_putInPipe Post 60 [4]) (o_iconst (-11) <| o_iret Post)
theorem s_T_putInPipe_25 {G : oG} {Post : oP} : oS G m_T_putInPipe Post 25 (k_T_putInPipe_25 G Post) := by
  unfold k_T_putInPipe_25
  refine so_aload_n d_T_putInPipe_25 rfl ?_
  refine so_getfN cl_3 (k := 1) (by decide) w_190 d_T_putInPipe_26 ?_
  refine so_bipush d_T_putInPipe_29 rfl ?_
  refine so_icmpne d_T_putInPipe_31 (tgt := 37) (by decide) ?_ ?_
  · refine so_iload_n d_T_putInPipe_37 rfl ?_
    refine so_bipush d_T_putInPipe_38 rfl ?_
    refine so_aload_n d_T_putInPipe_40 rfl ?_
    refine so_getfN cl_3 (k := 1) (by decide) w_190 d_T_putInPipe_41 ?_
    refine so_isub d_T_putInPipe_44 ?_
    refine so_mmin w_398 w_399 w_78 w_mathmin (by decide) (by decide) d_T_putInPipe_45 ?_
    refine so_istore d_T_putInPipe_48 (by decide) ?_
    refine so_aload_n d_T_putInPipe_50 rfl ?_
    refine so_aload_n d_T_putInPipe_51 rfl ?_
    refine so_getf cl_6 (k := 7) (by decide) w_203 d_T_putInPipe_52 ?_
    refine so_iload d_T_putInPipe_55 ?_
    refine so_callV cl_3 f_P_putIn w_442 w_443 w_441 (by decide) (by decide) d_T_putInPipe_57 ?_
    exact so_jmp
  · refine so_bipush d_T_putInPipe_34 rfl ?_
    exact so_iret d_T_putInPipe_36 rfl
def k_T_putInPipe_60 (G : oG) (Post : oP) : oK := o_iload 4 <| o_iret Post
theorem s_T_putInPipe_60 {G : oG} {Post : oP} : oS G m_T_putInPipe Post 60 (k_T_putInPipe_60 G Post) := by
  unfold k_T_putInPipe_60
  refine so_iload d_T_putInPipe_60 ?_
  exact so_iret d_T_putInPipe_62 rfl
theorem d_T_putInFile_0 : decode prog_1_method_30_code 0 = .ok (.aload_n 0, 1) := by decide +kernel
theorem d_T_putInFile_1 : decode prog_1_method_30_code 1 = .ok (.getfield 30, 3) := by decide +kernel
theorem d_T_putInFile_4 : decode prog_1_method_30_code 4 = .ok (.getfield 203, 3) := by decide +kernel
theorem d_T_putInFile_7 : decode prog_1_method_30_code 7 = .ok (.iload_n 1, 1) := by decide +kernel
theorem d_T_putInFile_8 : decode prog_1_method_30_code 8 = .ok (.iaload, 1) := by decide +kernel
theorem d_T_putInFile_9 : decode prog_1_method_30_code 9 = .ok (.istore_n 3, 1) := by decide +kernel
theorem d_T_putInFile_10 : decode prog_1_method_30_code 10 = .ok (.iload_n 3, 1) := by decide +kernel
theorem d_T_putInFile_11 : decode prog_1_method_30_code 11 = .ok (.bipush 24, 2) := by decide +kernel
theorem d_T_putInFile_13 : decode prog_1_method_30_code 13 = .ok (.if_icmp .ne 6, 3) := by decide +kernel
theorem d_T_putInFile_16 : decode prog_1_method_30_code 16 = .ok (.bipush (-28), 2) := by decide +kernel
theorem d_T_putInFile_18 : decode prog_1_method_30_code 18 = .ok (.ireturn, 1) := by decide +kernel
theorem d_T_putInFile_19 : decode prog_1_method_30_code 19 = .ok (.iload_n 2, 1) := by decide +kernel
theorem d_T_putInFile_20 : decode prog_1_method_30_code 20 = .ok (.bipush 24, 2) := by decide +kernel
theorem d_T_putInFile_22 : decode prog_1_method_30_code 22 = .ok (.iload_n 3, 1) := by decide +kernel
theorem d_T_putInFile_23 : decode prog_1_method_30_code 23 = .ok (.isub, 1) := by decide +kernel
theorem d_T_putInFile_24 : decode prog_1_method_30_code 24 = .ok (.invokestatic 254, 3) := by decide +kernel
theorem d_T_putInFile_27 : decode prog_1_method_30_code 27 = .ok (.istore 4, 2) := by decide +kernel
theorem d_T_putInFile_29 : decode prog_1_method_30_code 29 = .ok (.aload_n 0, 1) := by decide +kernel
theorem d_T_putInFile_30 : decode prog_1_method_30_code 30 = .ok (.getfield 36, 3) := by decide +kernel
theorem d_T_putInFile_33 : decode prog_1_method_30_code 33 = .ok (.aload_n 0, 1) := by decide +kernel
theorem d_T_putInFile_34 : decode prog_1_method_30_code 34 = .ok (.getfield 30, 3) := by decide +kernel
theorem d_T_putInFile_37 : decode prog_1_method_30_code 37 = .ok (.getfield 251, 3) := by decide +kernel
theorem d_T_putInFile_40 : decode prog_1_method_30_code 40 = .ok (.iload_n 1, 1) := by decide +kernel
theorem d_T_putInFile_41 : decode prog_1_method_30_code 41 = .ok (.iaload, 1) := by decide +kernel
theorem d_T_putInFile_42 : decode prog_1_method_30_code 42 = .ok (.aaload, 1) := by decide +kernel
theorem d_T_putInFile_43 : decode prog_1_method_30_code 43 = .ok (.iload_n 3, 1) := by decide +kernel
theorem d_T_putInFile_44 : decode prog_1_method_30_code 44 = .ok (.aload_n 0, 1) := by decide +kernel
theorem d_T_putInFile_45 : decode prog_1_method_30_code 45 = .ok (.getfield 53, 3) := by decide +kernel
theorem d_T_putInFile_48 : decode prog_1_method_30_code 48 = .ok (.iload 4, 2) := by decide +kernel
theorem d_T_putInFile_50 : decode prog_1_method_30_code 50 = .ok (.invokevirtual 283, 3) := by decide +kernel
theorem d_T_putInFile_53 : decode prog_1_method_30_code 53 = .ok (.aload_n 0, 1) := by decide +kernel
theorem d_T_putInFile_54 : decode prog_1_method_30_code 54 = .ok (.getfield 30, 3) := by decide +kernel
theorem d_T_putInFile_57 : decode prog_1_method_30_code 57 = .ok (.getfield 203, 3) := by decide +kernel
theorem d_T_putInFile_60 : decode prog_1_method_30_code 60 = .ok (.iload_n 1, 1) := by decide +kernel
theorem d_T_putInFile_61 : decode prog_1_method_30_code 61 = .ok (.iload_n 3, 1) := by decide +kernel
theorem d_T_putInFile_62 : decode prog_1_method_30_code 62 = .ok (.iload 4, 2) := by decide +kernel
theorem d_T_putInFile_64 : decode prog_1_method_30_code 64 = .ok (.iadd, 1) := by decide +kernel
theorem d_T_putInFile_65 : decode prog_1_method_30_code 65 = .ok (.iastore, 1) := by decide +kernel
theorem d_T_putInFile_66 : decode prog_1_method_30_code 66 = .ok (.iload 4, 2) := by decide +kernel
theorem d_T_putInFile_68 : decode prog_1_method_30_code 68 = .ok (.ireturn, 1) := by decide +kernel
def k_T_putInFile_0 (G : oG) (Post : oP) : oK := o_aload 0 <| o_getf 6 3 <| o_getf 2 4 <| o_iload 1 <| o_iald G <| o_istore 3 <| o_iload 3 <| o_iconst 24 <| o_icmpne (o_jmp G m_T_putInFile Post 19 [0, 1, 2, 3]) (o_iconst (-28) <| o_iret Post)
theorem s_T_putInFile_0 {G : oG} {Post : oP} : oS G m_T_putInFile Post 0 (k_T_putInFile_0 G Post) := by
  unfold k_T_putInFile_0
  refine so_aload_n d_T_putInFile_0 rfl ?_
  refine so_getf cl_6 (k := 3) (by decide) w_199 d_T_putInFile_1 ?_
  refine so_getfN cl_2 (k := 4) (by decide) w_138 d_T_putInFile_4 ?_
  refine so_iload_n d_T_putInFile_7 rfl ?_
  refine so_iald d_T_putInFile_8 ?_
  refine so_istore_n d_T_putInFile_9 rfl (by decide) ?_
  refine so_iload_n d_T_putInFile_10 rfl ?_
  refine so_bipush d_T_putInFile_11 rfl ?_
  refine so_icmpne d_T_putInFile_13 (tgt := 19) (by decide) ?_ ?_
  · exact so_jmp
  · refine so_bipush d_T_putInFile_16 rfl ?_
    exact so_iret d_T_putInFile_18 rfl
def k_T_putInFile_19 (G : oG) (Post : oP) : oK := o_iload 2 <| o_iconst 24 <| o_iload 3 <| o_isub <| o_mmin <| o_istore 4 <| o_aload 0 <| o_getf 6 4 <| o_aload 0 <| o_getf 6 3 <| o_getf 2 2 <| o_iload 1 <| o_iald G <| o_aald 3 <| o_iload 3 <| o_aload 0 <| o_getf 6 7 <| o_iload 4 <| o_callV G 5 m_F_putIn 3 <| o_jmp G m_T_putInFile Post 53 [0, 1, 3, 4]
theorem s_T_putInFile_19 {G : oG} {Post : oP} : oS G m_T_putInFile Post 19 (k_T_putInFile_19 G Post) := by
  unfold k_T_putInFile_19
  refine so_iload_n d_T_putInFile_19 rfl ?_
  refine so_bipush d_T_putInFile_20 rfl ?_
  refine so_iload_n d_T_putInFile_22 rfl ?_
  refine so_isub d_T_putInFile_23 ?_
  refine so_mmin w_398 w_399 w_78 w_mathmin (by decide) (by decide) d_T_putInFile_24 ?_
  refine so_istore d_T_putInFile_27 (by decide) ?_
  refine so_aload_n d_T_putInFile_29 rfl ?_
  refine so_getf cl_6 (k := 4) (by decide) w_200 d_T_putInFile_30 ?_
  refine so_aload_n d_T_putInFile_33 rfl ?_
  refine so_getf cl_6 (k := 3) (by decide) w_199 d_T_putInFile_34 ?_
  refine so_getfN cl_2 (k := 2) (by decide) w_135 d_T_putInFile_37 ?_
  refine so_iload_n d_T_putInFile_40 rfl ?_
  refine so_iald d_T_putInFile_41 ?_
  refine so_aald d_T_putInFile_42 (tt := 3) rfl ?_
  refine so_iload_n d_T_putInFile_43 rfl ?_
  refine so_aload_n d_T_putInFile_44 rfl ?_
  refine so_getf cl_6 (k := 7) (by decide) w_203 d_T_putInFile_45 ?_
  refine so_iload d_T_putInFile_48 ?_
  refine so_callV cl_5 f_F_putIn w_450 w_451 w_449 (by decide) (by decide) d_T_putInFile_50 ?_
  exact so_jmp
def k_T_putInFile_53 (G : oG) (Post : oP) : oK := o_aload 0 <| o_getf 6 3 <| o_getf 2 4 <| o_iload 1 <| o_iload 3 <| o_iload 4 <| o_iadd <| o_iast <| o_iload 4 <| o_iret Post
theorem s_T_putInFile_53 {G : oG} {Post : oP} : oS G m_T_putInFile Post 53 (k_T_putInFile_53 G Post) := by
  unfold k_T_putInFile_53
  refine so_aload_n d_T_putInFile_53 rfl ?_
  refine so_getf cl_6 (k := 3) (by decide) w_199 d_T_putInFile_54 ?_
  refine so_getfN cl_2 (k := 4) (by decide) w_138 d_T_putInFile_57 ?_
  refine so_iload_n d_T_putInFile_60 rfl ?_
  refine so_iload_n d_T_putInFile_61 rfl ?_
  refine so_iload d_T_putInFile_62 ?_
  refine so_iadd d_T_putInFile_64 ?_
  refine so_iast d_T_putInFile_65 ?_
  refine so_iload d_T_putInFile_66 ?_
  exact so_iret d_T_putInFile_68 rfl
theorem d_T_writeOpen_0 : decode prog_1_method_29_code 0 = .ok (.aload_n 0, 1) := by decide +kernel
theorem d_T_writeOpen_1 : decode prog_1_method_29_code 1 = .ok (.getfield 49, 3) := by decide +kernel
theorem d_T_writeOpen_4 : decode prog_1_method_29_code 4 = .ok (.invokevirtual 236, 3) := by decide +kernel
theorem d_T_writeOpen_7 : decode prog_1_method_29_code 7 = .ok (.istore_n 3, 1) := by decide +kernel
theorem d_T_writeOpen_8 : decode prog_1_method_29_code 8 = .ok (.iload_n 3, 1) := by decide +kernel
theorem d_T_writeOpen_9 : decode prog_1_method_29_code 9 = .ok (.ifCond .ne 5, 3) := by decide +kernel
theorem d_T_writeOpen_12 : decode prog_1_method_29_code 12 = .ok (.iconst 0, 1) := by decide +kernel
theorem d_T_writeOpen_13 : decode prog_1_method_29_code 13 = .ok (.ireturn, 1) := by decide +kernel
theorem d_T_writeOpen_14 : decode prog_1_method_29_code 14 = .ok (.iload_n 3, 1) := by decide +kernel
theorem d_T_writeOpen_15 : decode prog_1_method_29_code 15 = .ok (.bipush 64, 2) := by decide +kernel
theorem d_T_writeOpen_17 : decode prog_1_method_29_code 17 = .ok (.invokestatic 254, 3) := by decide +kernel
theorem d_T_writeOpen_20 : decode prog_1_method_29_code 20 = .ok (.istore 4, 2) := by decide +kernel
theorem d_T_writeOpen_22 : decode prog_1_method_29_code 22 = .ok (.aload_n 0, 1) := by decide +kernel
theorem d_T_writeOpen_23 : decode prog_1_method_29_code 23 = .ok (.iload_n 1, 1) := by decide +kernel
theorem d_T_writeOpen_24 : decode prog_1_method_29_code 24 = .ok (.iload 4, 2) := by decide +kernel
theorem d_T_writeOpen_26 : decode prog_1_method_29_code 26 = .ok (.invokevirtual 274, 3) := by decide +kernel
theorem d_T_writeOpen_29 : decode prog_1_method_29_code 29 = .ok (.aload_n 0, 1) := by decide +kernel
theorem d_T_writeOpen_30 : decode prog_1_method_29_code 30 = .ok (.getfield 30, 3) := by decide +kernel
theorem d_T_writeOpen_33 : decode prog_1_method_29_code 33 = .ok (.iload_n 2, 1) := by decide +kernel
theorem d_T_writeOpen_34 : decode prog_1_method_29_code 34 = .ok (.invokevirtual 200, 3) := by decide +kernel
theorem d_T_writeOpen_37 : decode prog_1_method_29_code 37 = .ok (.ifCond .eq 20, 3) := by decide +kernel
theorem d_T_writeOpen_40 : decode prog_1_method_29_code 40 = .ok (.aload_n 0, 1) := by decide +kernel
theorem d_T_writeOpen_41 : decode prog_1_method_29_code 41 = .ok (.aload_n 0, 1) := by decide +kernel
theorem d_T_writeOpen_42 : decode prog_1_method_29_code 42 = .ok (.getfield 30, 3) := by decide +kernel
theorem d_T_writeOpen_45 : decode prog_1_method_29_code 45 = .ok (.iload_n 2, 1) := by decide +kernel
theorem d_T_writeOpen_46 : decode prog_1_method_29_code 46 = .ok (.invokevirtual 239, 3) := by decide +kernel
theorem d_T_writeOpen_49 : decode prog_1_method_29_code 49 = .ok (.iload 4, 2) := by decide +kernel
theorem d_T_writeOpen_51 : decode prog_1_method_29_code 51 = .ok (.invokevirtual 277, 3) := by decide +kernel
theorem d_T_writeOpen_54 : decode prog_1_method_29_code 54 = .ok (.goto 10, 3) := by decide +kernel
theorem d_T_writeOpen_57 : decode prog_1_method_29_code 57 = .ok (.aload_n 0, 1) := by decide +kernel
theorem d_T_writeOpen_58 : decode prog_1_method_29_code 58 = .ok (.iload_n 2, 1) := by decide +kernel
theorem d_T_writeOpen_59 : decode prog_1_method_29_code 59 = .ok (.iload 4, 2) := by decide +kernel
theorem d_T_writeOpen_61 : decode prog_1_method_29_code 61 = .ok (.invokevirtual 280, 3) := by decide +kernel
theorem d_T_writeOpen_64 : decode prog_1_method_29_code 64 = .ok (.ireturn, 1) := by decide +kernel
def k_T_writeOpen_0 (G : oG) (Post : oP) : oK := o_aload 0 <| o_getf 6 6 <| o_callV G 4 m_R_total 0 <| o_jmp G m_T_writeOpen Post 7 [0, 1, 2]
theorem s_T_writeOpen_0 {G : oG} {Post : oP} : oS G m_T_writeOpen Post 0 (k_T_writeOpen_0 G Post) := by
  unfold k_T_writeOpen_0
  refine so_aload_n d_T_writeOpen_0 rfl ?_
  refine so_getf cl_6 (k := 6) (by decide) w_202 d_T_writeOpen_1 ?_
  refine so_callV cl_4 f_R_total w_383 w_384 w_382 (by decide) (by decide) d_T_writeOpen_4 ?_
  exact so_jmp
def k_T_writeOpen_7 (G : oG) (Post : oP) : oK := o_istore 3 <| o_iload 3 <| o_ifne (o_iload 3 <| o_iconst 64 <| o_mmin <| o_istore 4 <| o_aload 0 <| o_iload 1 <| o_iload 4 <| o_callV G 6 m_T_gather 2 <| o_jmp G m_T_writeOpen Post 29 [0, 2, 4]) (o_iconst 0 <| o_iret Post)
theorem s_T_writeOpen_7 {G : oG} {Post : oP} : oS G m_T_writeOpen Post 7 (k_T_writeOpen_7 G Post) := by
  unfold k_T_writeOpen_7
  refine so_istore_n d_T_writeOpen_7 rfl (by decide) ?_
  refine so_iload_n d_T_writeOpen_8 rfl ?_
  refine so_ifne d_T_writeOpen_9 (tgt := 14) (by decide) ?_ ?_
  · refine so_iload_n d_T_writeOpen_14 rfl ?_
    refine so_bipush d_T_writeOpen_15 rfl ?_
    refine so_mmin w_398 w_399 w_78 w_mathmin (by decide) (by decide) d_T_writeOpen_17 ?_
    refine so_istore d_T_writeOpen_20 (by decide) ?_
    refine so_aload_n d_T_writeOpen_22 rfl ?_
    refine so_iload_n d_T_writeOpen_23 rfl ?_
    refine so_iload d_T_writeOpen_24 ?_
    refine so_callV cl_6 f_T_gather w_434 w_11 w_432 (by decide) (by decide) d_T_writeOpen_26 ?_
    exact so_jmp
  · refine so_iconst d_T_writeOpen_12 rfl ?_
    exact so_iret d_T_writeOpen_13 rfl
def k_T_writeOpen_29 (G : oG) (Post : oP) : oK := o_aload 0 <| o_getf 6 3 <| o_iload 2 <| o_callV G 2 m_O_isOfPipe 1 <| o_jmp G m_T_writeOpen Post 37 [0, 2, 4]
theorem s_T_writeOpen_29 {G : oG} {Post : oP} : oS G m_T_writeOpen Post 29 (k_T_writeOpen_29 G Post) := by
  unfold k_T_writeOpen_29
  refine so_aload_n d_T_writeOpen_29 rfl ?_
  refine so_getf cl_6 (k := 3) (by decide) w_199 d_T_writeOpen_30 ?_
  refine so_iload_n d_T_writeOpen_33 rfl ?_
  refine so_callV cl_2 f_O_isOfPipe w_387 w_388 w_386 (by decide) (by decide) d_T_writeOpen_34 ?_
  exact so_jmp
def k_T_writeOpen_37 (G : oG) (Post : oP) : oK := o_ifeq (o_aload 0 <| o_iload 2 <| o_iload 4 <| o_callV G 6 m_T_putInFile 2 <| o_jmp G m_T_writeOpen Post 64 []) (o_aload 0 <| o_aload 0 <| o_getf 6 3 <| o_iload 2 <| o_callV G 2 m_O_pipeOf 1 <| o_jmp G m_T_writeOpen Post 49 [4])
theorem s_T_writeOpen_37 {G : oG} {Post : oP} : oS G m_T_writeOpen Post 37 (k_T_writeOpen_37 G Post) := by
  unfold k_T_writeOpen_37
  refine so_ifeq d_T_writeOpen_37 (tgt := 57) (by decide) ?_ ?_
  · refine so_aload_n d_T_writeOpen_57 rfl ?_
    refine so_iload_n d_T_writeOpen_58 rfl ?_
    refine so_iload d_T_writeOpen_59 ?_
    refine so_callV cl_6 f_T_putInFile w_447 w_13 w_445 (by decide) (by decide) d_T_writeOpen_61 ?_
    exact so_jmp
  · refine so_aload_n d_T_writeOpen_40 rfl ?_
    refine so_aload_n d_T_writeOpen_41 rfl ?_
    refine so_getf cl_6 (k := 3) (by decide) w_199 d_T_writeOpen_42 ?_
    refine so_iload_n d_T_writeOpen_45 rfl ?_
    refine so_callV cl_2 f_O_pipeOf w_391 w_392 w_390 (by decide) (by decide) d_T_writeOpen_46 ?_
    exact so_jmp
def k_T_writeOpen_49 (G : oG) (Post : oP) : oK := o_iload 4 <| o_callV G 6 m_T_putInPipe 2 <| o_jmp G m_T_writeOpen Post 54 []
theorem s_T_writeOpen_49 {G : oG} {Post : oP} : oS G m_T_writeOpen Post 49 (k_T_writeOpen_49 G Post) := by
  unfold k_T_writeOpen_49
  refine so_iload d_T_writeOpen_49 ?_
  refine so_callV cl_6 f_T_putInPipe w_439 w_12 w_437 (by decide) (by decide) d_T_writeOpen_51 ?_
  exact so_jmp
def k_T_writeOpen_54 (G : oG) (Post : oP) : oK := o_jmp G m_T_writeOpen Post 64 []
theorem s_T_writeOpen_54 {G : oG} {Post : oP} : oS G m_T_writeOpen Post 54 (k_T_writeOpen_54 G Post) := by
  unfold k_T_writeOpen_54
  refine so_goto d_T_writeOpen_54 (tgt := 64) (by decide) ?_
  exact so_jmp
def k_T_writeOpen_64 (G : oG) (Post : oP) : oK := o_iret Post
theorem s_T_writeOpen_64 {G : oG} {Post : oP} : oS G m_T_writeOpen Post 64 (k_T_writeOpen_64 G Post) := by
  unfold k_T_writeOpen_64
  exact so_iret d_T_writeOpen_64 rfl
theorem d_T_transfer_0 : decode prog_1_method_22_code 0 = .ok (.iload 5, 2) := by decide +kernel
theorem d_T_transfer_2 : decode prog_1_method_22_code 2 = .ok (.ifCond .lt 10, 3) := by decide +kernel
theorem d_T_transfer_5 : decode prog_1_method_22_code 5 = .ok (.iload 5, 2) := by decide +kernel
theorem d_T_transfer_7 : decode prog_1_method_22_code 7 = .ok (.bipush 64, 2) := by decide +kernel
theorem d_T_transfer_9 : decode prog_1_method_22_code 9 = .ok (.if_icmp .le 6, 3) := by decide +kernel
theorem d_T_transfer_12 : decode prog_1_method_22_code 12 = .ok (.bipush (-22), 2) := by decide +kernel
theorem d_T_transfer_14 : decode prog_1_method_22_code 14 = .ok (.ireturn, 1) := by decide +kernel
theorem d_T_transfer_15 : decode prog_1_method_22_code 15 = .ok (.aload_n 0, 1) := by decide +kernel
theorem d_T_transfer_16 : decode prog_1_method_22_code 16 = .ok (.getfield 30, 3) := by decide +kernel
theorem d_T_transfer_19 : decode prog_1_method_22_code 19 = .ok (.iload_n 1, 1) := by decide +kernel
theorem d_T_transfer_20 : decode prog_1_method_22_code 20 = .ok (.iload_n 3, 1) := by decide +kernel
theorem d_T_transfer_21 : decode prog_1_method_22_code 21 = .ok (.invokevirtual 193, 3) := by decide +kernel
theorem d_T_transfer_24 : decode prog_1_method_22_code 24 = .ok (.istore 6, 2) := by decide +kernel
theorem d_T_transfer_26 : decode prog_1_method_22_code 26 = .ok (.aload_n 0, 1) := by decide +kernel
theorem d_T_transfer_27 : decode prog_1_method_22_code 27 = .ok (.getfield 30, 3) := by decide +kernel
theorem d_T_transfer_30 : decode prog_1_method_22_code 30 = .ok (.iload 6, 2) := by decide +kernel
theorem d_T_transfer_32 : decode prog_1_method_22_code 32 = .ok (.iload_n 2, 1) := by decide +kernel
theorem d_T_transfer_33 : decode prog_1_method_22_code 33 = .ok (.invokevirtual 206, 3) := by decide +kernel
theorem d_T_transfer_36 : decode prog_1_method_22_code 36 = .ok (.ifCond .ne 6, 3) := by decide +kernel
theorem d_T_transfer_39 : decode prog_1_method_22_code 39 = .ok (.bipush (-9), 2) := by decide +kernel
theorem d_T_transfer_41 : decode prog_1_method_22_code 41 = .ok (.ireturn, 1) := by decide +kernel
theorem d_T_transfer_42 : decode prog_1_method_22_code 42 = .ok (.aload_n 0, 1) := by decide +kernel
theorem d_T_transfer_43 : decode prog_1_method_22_code 43 = .ok (.getfield 12, 3) := by decide +kernel
theorem d_T_transfer_46 : decode prog_1_method_22_code 46 = .ok (.iload_n 1, 1) := by decide +kernel
theorem d_T_transfer_47 : decode prog_1_method_22_code 47 = .ok (.iload 4, 2) := by decide +kernel
theorem d_T_transfer_49 : decode prog_1_method_22_code 49 = .ok (.iload 5, 2) := by decide +kernel
theorem d_T_transfer_51 : decode prog_1_method_22_code 51 = .ok (.iload_n 2, 1) := by decide +kernel
theorem d_T_transfer_52 : decode prog_1_method_22_code 52 = .ok (.invokestatic 209, 3) := by decide +kernel
theorem d_T_transfer_55 : decode prog_1_method_22_code 55 = .ok (.invokevirtual 212, 3) := by decide +kernel
theorem d_T_transfer_58 : decode prog_1_method_22_code 58 = .ok (.ifCond .ne 6, 3) := by decide +kernel
theorem d_T_transfer_61 : decode prog_1_method_22_code 61 = .ok (.bipush (-14), 2) := by decide +kernel
theorem d_T_transfer_63 : decode prog_1_method_22_code 63 = .ok (.ireturn, 1) := by decide +kernel
theorem d_T_transfer_64 : decode prog_1_method_22_code 64 = .ok (.aload_n 0, 1) := by decide +kernel
theorem d_T_transfer_65 : decode prog_1_method_22_code 65 = .ok (.getfield 49, 3) := by decide +kernel
theorem d_T_transfer_68 : decode prog_1_method_22_code 68 = .ok (.iload 4, 2) := by decide +kernel
theorem d_T_transfer_70 : decode prog_1_method_22_code 70 = .ok (.iload 5, 2) := by decide +kernel
theorem d_T_transfer_72 : decode prog_1_method_22_code 72 = .ok (.invokevirtual 216, 3) := by decide +kernel
theorem d_T_transfer_75 : decode prog_1_method_22_code 75 = .ok (.iload_n 2, 1) := by decide +kernel
theorem d_T_transfer_76 : decode prog_1_method_22_code 76 = .ok (.iconst 1, 1) := by decide +kernel
theorem d_T_transfer_77 : decode prog_1_method_22_code 77 = .ok (.if_icmp .ne 13, 3) := by decide +kernel
theorem d_T_transfer_80 : decode prog_1_method_22_code 80 = .ok (.aload_n 0, 1) := by decide +kernel
theorem d_T_transfer_81 : decode prog_1_method_22_code 81 = .ok (.iload_n 1, 1) := by decide +kernel
theorem d_T_transfer_82 : decode prog_1_method_22_code 82 = .ok (.iload 6, 2) := by decide +kernel
theorem d_T_transfer_84 : decode prog_1_method_22_code 84 = .ok (.invokevirtual 219, 3) := by decide +kernel
theorem d_T_transfer_87 : decode prog_1_method_22_code 87 = .ok (.goto 10, 3) := by decide +kernel
theorem d_T_transfer_90 : decode prog_1_method_22_code 90 = .ok (.aload_n 0, 1) := by decide +kernel
theorem d_T_transfer_91 : decode prog_1_method_22_code 91 = .ok (.iload_n 1, 1) := by decide +kernel
theorem d_T_transfer_92 : decode prog_1_method_22_code 92 = .ok (.iload 6, 2) := by decide +kernel
theorem d_T_transfer_94 : decode prog_1_method_22_code 94 = .ok (.invokevirtual 222, 3) := by decide +kernel
theorem d_T_transfer_97 : decode prog_1_method_22_code 97 = .ok (.ireturn, 1) := by decide +kernel
def k_T_transfer_0 (G : oG) (Post : oP) : oK := o_iload 5 <| o_iflt (o_iconst (-22) <| o_iret Post) (o_iload 5 <| o_iconst 64 <| o_icmple (o_aload 0 <| o_getf 6 3 <| o_iload 1 <| o_iload 3 <| o_callV G 2 m_O_at 2 <| o_jmp G m_T_transfer Post 24 [0, 1, 2, 4, 5]) (o_iconst (-22) <| o_iret Post))
theorem s_T_transfer_0 {G : oG} {Post : oP} : oS G m_T_transfer Post 0 (k_T_transfer_0 G Post) := by
  unfold k_T_transfer_0
  refine so_iload d_T_transfer_0 ?_
  refine so_iflt d_T_transfer_2 (tgt := 12) (by decide) ?_ ?_
  · refine so_bipush d_T_transfer_12 rfl ?_
    exact so_iret d_T_transfer_14 rfl
  · refine so_iload d_T_transfer_5 ?_
    refine so_bipush d_T_transfer_7 rfl ?_
    refine so_icmple d_T_transfer_9 (tgt := 15) (by decide) ?_ ?_
    · refine so_aload_n d_T_transfer_15 rfl ?_
      refine so_getf cl_6 (k := 3) (by decide) w_199 d_T_transfer_16 ?_
      refine so_iload_n d_T_transfer_19 rfl ?_
      refine so_iload_n d_T_transfer_20 rfl ?_
      refine so_callV cl_2 f_O_at w_346 w_347 w_345 (by decide) (by decide) d_T_transfer_21 ?_
      exact so_jmp
    · refine so_bipush d_T_transfer_12 rfl ?_
      exact so_iret d_T_transfer_14 rfl
def k_T_transfer_24 (G : oG) (Post : oP) : oK := o_istore 6 <| o_aload 0 <| o_getf 6 3 <| o_iload 6 <| o_iload 2 <| o_callV G 2 m_O_isFor 2 <| o_jmp G m_T_transfer Post 36 [0, 1, 2, 4, 5, 6]
theorem s_T_transfer_24 {G : oG} {Post : oP} : oS G m_T_transfer Post 24 (k_T_transfer_24 G Post) := by
  unfold k_T_transfer_24
  refine so_istore d_T_transfer_24 (by decide) ?_
  refine so_aload_n d_T_transfer_26 rfl ?_
  refine so_getf cl_6 (k := 3) (by decide) w_199 d_T_transfer_27 ?_
  refine so_iload d_T_transfer_30 ?_
  refine so_iload_n d_T_transfer_32 rfl ?_
  refine so_callV cl_2 f_O_isFor w_359 w_360 w_358 (by decide) (by decide) d_T_transfer_33 ?_
  exact so_jmp
def k_T_transfer_36 (G : oG) (Post : oP) : oK := o_ifne (o_aload 0 <| o_getf 6 0 <| o_iload 1 <| o_iload 4 <| o_iload 5 <| o_iload 2 <| o_callS G m_T_flagFor 1 <| o_jmp G m_T_transfer Post 55 [0, 1, 2, 4, 5, 6]) (o_iconst (-9) <| o_iret Post)
theorem s_T_transfer_36 {G : oG} {Post : oP} : oS G m_T_transfer Post 36 (k_T_transfer_36 G Post) := by
  unfold k_T_transfer_36
  refine so_ifne d_T_transfer_36 (tgt := 42) (by decide) ?_ ?_
  · refine so_aload_n d_T_transfer_42 rfl ?_
    refine so_getf cl_6 (k := 0) (by decide) w_196 d_T_transfer_43 ?_
    refine so_iload_n d_T_transfer_46 rfl ?_
    refine so_iload d_T_transfer_47 ?_
    refine so_iload d_T_transfer_49 ?_
    refine so_iload_n d_T_transfer_51 rfl ?_
    refine so_callS f_T_flagFor w_363 w_362 (by decide) (by decide) d_T_transfer_52 ?_
    exact so_jmp
  · refine so_bipush d_T_transfer_39 rfl ?_
    exact so_iret d_T_transfer_41 rfl
def k_T_transfer_55 (G : oG) (Post : oP) : oK := o_callV G 0 m_M_allows 4 <| o_jmp G m_T_transfer Post 58 [0, 1, 2, 4, 5, 6]
theorem s_T_transfer_55 {G : oG} {Post : oP} : oS G m_T_transfer Post 55 (k_T_transfer_55 G Post) := by
  unfold k_T_transfer_55
  refine so_callV cl_0 f_M_allows w_287 w_288 w_365 (by decide) (by decide) d_T_transfer_55 ?_
  exact so_jmp
def k_T_transfer_58 (G : oG) (Post : oP) : oK := o_ifne (o_aload 0 <| o_getf 6 6 <| o_iload 4 <| o_iload 5 <| o_callV G 4 m_R_setOnly 2 <| o_jmp G m_T_transfer Post 75 [0, 1, 2, 6]) (o_iconst (-14) <| o_iret Post)
theorem s_T_transfer_58 {G : oG} {Post : oP} : oS G m_T_transfer Post 58 (k_T_transfer_58 G Post) := by
  unfold k_T_transfer_58
  refine so_ifne d_T_transfer_58 (tgt := 64) (by decide) ?_ ?_
  · refine so_aload_n d_T_transfer_64 rfl ?_
    refine so_getf cl_6 (k := 6) (by decide) w_202 d_T_transfer_65 ?_
    refine so_iload d_T_transfer_68 ?_
    refine so_iload d_T_transfer_70 ?_
    refine so_callV cl_4 f_R_setOnly w_367 w_368 w_366 (by decide) (by decide) d_T_transfer_72 ?_
    exact so_jmp
  · refine so_bipush d_T_transfer_61 rfl ?_
    exact so_iret d_T_transfer_63 rfl
def k_T_transfer_75 (G : oG) (Post : oP) : oK := o_iload 2 <| o_iconst 1 <| o_icmpne (o_aload 0 <| o_iload 1 <| o_iload 6 <| o_callV G 6 m_T_writeOpen 2 <| o_jmp G m_T_transfer Post 97 []) (o_aload 0 <| o_iload 1 <| o_iload 6 <| o_callV G 6 m_T_readOpen 2 <| o_jmp G m_T_transfer Post 87 [])
theorem s_T_transfer_75 {G : oG} {Post : oP} : oS G m_T_transfer Post 75 (k_T_transfer_75 G Post) := by
  unfold k_T_transfer_75
  refine so_iload_n d_T_transfer_75 rfl ?_
  refine so_iconst d_T_transfer_76 rfl ?_
  refine so_icmpne d_T_transfer_77 (tgt := 90) (by decide) ?_ ?_
  · refine so_aload_n d_T_transfer_90 rfl ?_
    refine so_iload_n d_T_transfer_91 rfl ?_
    refine so_iload d_T_transfer_92 ?_
    refine so_callV cl_6 f_T_writeOpen w_430 w_10 w_428 (by decide) (by decide) d_T_transfer_94 ?_
    exact so_jmp
  · refine so_aload_n d_T_transfer_80 rfl ?_
    refine so_iload_n d_T_transfer_81 rfl ?_
    refine so_iload d_T_transfer_82 ?_
    refine so_callV cl_6 f_T_readOpen w_380 w_6 w_378 (by decide) (by decide) d_T_transfer_84 ?_
    exact so_jmp
def k_T_transfer_87 (G : oG) (Post : oP) : oK := o_jmp G m_T_transfer Post 97 []
theorem s_T_transfer_87 {G : oG} {Post : oP} : oS G m_T_transfer Post 87 (k_T_transfer_87 G Post) := by
  unfold k_T_transfer_87
  refine so_goto d_T_transfer_87 (tgt := 97) (by decide) ?_
  exact so_jmp
def k_T_transfer_97 (G : oG) (Post : oP) : oK := o_iret Post
theorem s_T_transfer_97 {G : oG} {Post : oP} : oS G m_T_transfer Post 97 (k_T_transfer_97 G Post) := by
  unfold k_T_transfer_97
  exact so_iret d_T_transfer_97 rfl
