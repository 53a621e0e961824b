/-! code in blocks, by program -/
theorem d_X_descriptors_0 : decode prog_9_method_32_code 0 = .ok (.iconst 0, 1) := by decide +kernel
theorem d_X_descriptors_1 : decode prog_9_method_32_code 1 = .ok (.istore_n 2, 1) := by decide +kernel
theorem d_X_descriptors_2 : decode prog_9_method_32_code 2 = .ok (.iconst 0, 1) := by decide +kernel
theorem d_X_descriptors_3 : decode prog_9_method_32_code 3 = .ok (.istore_n 3, 1) := by decide +kernel
theorem d_X_descriptors_4 : decode prog_9_method_32_code 4 = .ok (.iload_n 3, 1) := by decide +kernel
theorem d_X_descriptors_5 : decode prog_9_method_32_code 5 = .ok (.iconst 5, 1) := by decide +kernel
theorem d_X_descriptors_6 : decode prog_9_method_32_code 6 = .ok (.if_icmp .ge 37, 3) := by decide +kernel
theorem d_X_descriptors_9 : decode prog_9_method_32_code 9 = .ok (.iload_n 1, 1) := by decide +kernel
theorem d_X_descriptors_10 : decode prog_9_method_32_code 10 = .ok (.invokestatic 77, 3) := by decide +kernel
theorem d_X_descriptors_13 : decode prog_9_method_32_code 13 = .ok (.ifCond .eq 30, 3) := by decide +kernel
theorem d_X_descriptors_16 : decode prog_9_method_32_code 16 = .ok (.iload_n 2, 1) := by decide +kernel
theorem d_X_descriptors_17 : decode prog_9_method_32_code 17 = .ok (.aload_n 0, 1) := by decide +kernel
theorem d_X_descriptors_18 : decode prog_9_method_32_code 18 = .ok (.getfield 62, 3) := by decide +kernel
theorem d_X_descriptors_21 : decode prog_9_method_32_code 21 = .ok (.iconst 5, 1) := by decide +kernel
theorem d_X_descriptors_22 : decode prog_9_method_32_code 22 = .ok (.iload_n 1, 1) := by decide +kernel
theorem d_X_descriptors_23 : decode prog_9_method_32_code 23 = .ok (.imul, 1) := by decide +kernel
theorem d_X_descriptors_24 : decode prog_9_method_32_code 24 = .ok (.iload_n 3, 1) := by decide +kernel
theorem d_X_descriptors_25 : decode prog_9_method_32_code 25 = .ok (.iadd, 1) := by decide +kernel
theorem d_X_descriptors_26 : decode prog_9_method_32_code 26 = .ok (.iaload, 1) := by decide +kernel
theorem d_X_descriptors_27 : decode prog_9_method_32_code 27 = .ok (.ifCond .le 7, 3) := by decide +kernel
theorem d_X_descriptors_30 : decode prog_9_method_32_code 30 = .ok (.iconst 1, 1) := by decide +kernel
theorem d_X_descriptors_31 : decode prog_9_method_32_code 31 = .ok (.goto 4, 3) := by decide +kernel
theorem d_X_descriptors_34 : decode prog_9_method_32_code 34 = .ok (.iconst 0, 1) := by decide +kernel
theorem d_X_descriptors_35 : decode prog_9_method_32_code 35 = .ok (.iadd, 1) := by decide +kernel
theorem d_X_descriptors_36 : decode prog_9_method_32_code 36 = .ok (.istore_n 2, 1) := by decide +kernel
theorem d_X_descriptors_37 : decode prog_9_method_32_code 37 = .ok (.iinc 3 1, 3) := by decide +kernel
theorem d_X_descriptors_40 : decode prog_9_method_32_code 40 = .ok (.goto (-36), 3) := by decide +kernel
theorem d_X_descriptors_43 : decode prog_9_method_32_code 43 = .ok (.iload_n 1, 1) := by decide +kernel
theorem d_X_descriptors_44 : decode prog_9_method_32_code 44 = .ok (.invokestatic 77, 3) := by decide +kernel
theorem d_X_descriptors_47 : decode prog_9_method_32_code 47 = .ok (.ifCond .eq 7, 3) := by decide +kernel
theorem d_X_descriptors_50 : decode prog_9_method_32_code 50 = .ok (.iload_n 2, 1) := by decide +kernel
theorem d_X_descriptors_51 : decode prog_9_method_32_code 51 = .ok (.goto 4, 3) := by decide +kernel
theorem d_X_descriptors_54 : decode prog_9_method_32_code 54 = .ok (.iconst (-1), 1) := by decide +kernel
theorem d_X_descriptors_55 : decode prog_9_method_32_code 55 = .ok (.ireturn, 1) := by decide +kernel
def k_X_descriptors_0 (G : oG) (Post : oP) : oK := o_iconst 0 <| o_istore 2 <| o_iconst 0 <| o_istore 3 <| o_jmp G m_X_descriptors Post 4 [0, 1, 2, 3]
theorem s_X_descriptors_0 {G : oG} {Post : oP} : oS G m_X_descriptors Post 0 (k_X_descriptors_0 G Post) := by
  unfold k_X_descriptors_0
  refine so_iconst d_X_descriptors_0 rfl ?_
  refine so_istore_n d_X_descriptors_1 rfl (by decide) ?_
  refine so_iconst d_X_descriptors_2 rfl ?_
  refine so_istore_n d_X_descriptors_3 rfl (by decide) ?_
  exact so_jmp
def k_X_descriptors_4 (G : oG) (Post : oP) : oK := o_iload 3 <| o_iconst 5 <| o_icmpge (o_iload 1 <| o_callS G m_X_isProcess 1 <| o_jmp G m_X_descriptors Post 47 [2]) (o_iload 1 <| o_callS G m_X_isProcess 1 <| o_jmp G m_X_descriptors Post 13 [0, 1, 2, 3])
theorem s_X_descriptors_4 {G : oG} {Post : oP} : oS G m_X_descriptors Post 4 (k_X_descriptors_4 G Post) := by
  unfold k_X_descriptors_4
  refine so_iload_n d_X_descriptors_4 rfl ?_
  refine so_iconst d_X_descriptors_5 rfl ?_
  refine so_icmpge d_X_descriptors_6 (tgt := 43) (by decide) ?_ ?_
  · refine so_iload_n d_X_descriptors_43 rfl ?_
    refine so_callS f_X_isProcess w_656 w_655 (by decide) (by decide) d_X_descriptors_44 ?_
    exact so_jmp
  · refine so_iload_n d_X_descriptors_9 rfl ?_
    refine so_callS f_X_isProcess w_656 w_655 (by decide) (by decide) d_X_descriptors_10 ?_
    exact so_jmp
def k_X_descriptors_13 (G : oG) (Post : oP) : oK := o_ifeq (o_iload 1 <| o_callS G m_X_isProcess 1 <| o_jmp G m_X_descriptors Post 47 [2]) (o_iload 2 <| o_aload 0 <| o_getf 7 18 <| o_iconst 5 <| o_iload 1 <| o_imul <| o_iload 3 <| o_iadd <| o_iald G <| o_ifle (o_iconst 0 <| o_iadd <| o_istore 2 <| o_iinc 3 1 <| o_jmp G m_X_descriptors Post 4 [0, 1, 2, 3]) (o_iconst 1 <| o_iadd <| o_istore 2 <| o_iinc 3 1 <| o_jmp G m_X_descriptors Post 4 [0, 1, 2, 3]))
theorem s_X_descriptors_13 {G : oG} {Post : oP} : oS G m_X_descriptors Post 13 (k_X_descriptors_13 G Post) := by
  unfold k_X_descriptors_13
  refine so_ifeq d_X_descriptors_13 (tgt := 43) (by decide) ?_ ?_
  · refine so_iload_n d_X_descriptors_43 rfl ?_
    refine so_callS f_X_isProcess w_656 w_655 (by decide) (by decide) d_X_descriptors_44 ?_
    exact so_jmp
  · refine so_iload_n d_X_descriptors_16 rfl ?_
    refine so_aload_n d_X_descriptors_17 rfl ?_
    refine so_getf cl_7 (k := 18) (by decide) w_580 d_X_descriptors_18 ?_
    refine so_iconst d_X_descriptors_21 rfl ?_
    refine so_iload_n d_X_descriptors_22 rfl ?_
    refine so_imul d_X_descriptors_23 ?_
    refine so_iload_n d_X_descriptors_24 rfl ?_
    refine so_iadd d_X_descriptors_25 ?_
    refine so_iald d_X_descriptors_26 ?_
    refine so_ifle d_X_descriptors_27 (tgt := 34) (by decide) ?_ ?_
    · refine so_iconst d_X_descriptors_34 rfl ?_
      refine so_iadd d_X_descriptors_35 ?_
      refine so_istore_n d_X_descriptors_36 rfl (by decide) ?_
      refine so_iinc d_X_descriptors_37 rfl (by decide) ?_
      refine so_goto d_X_descriptors_40 (tgt := 4) (by decide) ?_
      exact so_jmp
    · refine so_iconst d_X_descriptors_30 rfl ?_
      refine so_goto d_X_descriptors_31 (tgt := 35) (by decide) ?_
      refine so_iadd d_X_descriptors_35 ?_
      refine so_istore_n d_X_descriptors_36 rfl (by decide) ?_
      refine so_iinc d_X_descriptors_37 rfl (by decide) ?_
      refine so_goto d_X_descriptors_40 (tgt := 4) (by decide) ?_
      exact so_jmp
def k_X_descriptors_47 (G : oG) (Post : oP) : oK := o_ifeq (o_iconst (-1) <| o_iret Post) (o_iload 2 <| o_iret Post)
theorem s_X_descriptors_47 {G : oG} {Post : oP} : oS G m_X_descriptors Post 47 (k_X_descriptors_47 G Post) := by
  unfold k_X_descriptors_47
  refine so_ifeq d_X_descriptors_47 (tgt := 54) (by decide) ?_ ?_
  · refine so_iconst d_X_descriptors_54 rfl ?_
    exact so_iret d_X_descriptors_55 rfl
  · refine so_iload_n d_X_descriptors_50 rfl ?_
    refine so_goto d_X_descriptors_51 (tgt := 55) (by decide) ?_
    exact so_iret d_X_descriptors_55 rfl
theorem d_X_count_0 : decode prog_9_method_31_code 0 = .ok (.iconst 0, 1) := by decide +kernel
theorem d_X_count_1 : decode prog_9_method_31_code 1 = .ok (.istore_n 2, 1) := by decide +kernel
theorem d_X_count_2 : decode prog_9_method_31_code 2 = .ok (.iconst 0, 1) := by decide +kernel
theorem d_X_count_3 : decode prog_9_method_31_code 3 = .ok (.istore_n 3, 1) := by decide +kernel
theorem d_X_count_4 : decode prog_9_method_31_code 4 = .ok (.iload_n 3, 1) := by decide +kernel
theorem d_X_count_5 : decode prog_9_method_31_code 5 = .ok (.bipush 8, 2) := by decide +kernel
theorem d_X_count_7 : decode prog_9_method_31_code 7 = .ok (.if_icmp .ge 119, 3) := by decide +kernel
theorem d_X_count_10 : decode prog_9_method_31_code 10 = .ok (.iload_n 1, 1) := by decide +kernel
theorem d_X_count_11 : decode prog_9_method_31_code 11 = .ok (.ifCond .ne 29, 3) := by decide +kernel
theorem d_X_count_14 : decode prog_9_method_31_code 14 = .ok (.iload_n 3, 1) := by decide +kernel
theorem d_X_count_15 : decode prog_9_method_31_code 15 = .ok (.bipush 6, 2) := by decide +kernel
theorem d_X_count_17 : decode prog_9_method_31_code 17 = .ok (.if_icmp .ge 19, 3) := by decide +kernel
theorem d_X_count_20 : decode prog_9_method_31_code 20 = .ok (.aload_n 0, 1) := by decide +kernel
theorem d_X_count_21 : decode prog_9_method_31_code 21 = .ok (.getfield 22, 3) := by decide +kernel
theorem d_X_count_24 : decode prog_9_method_31_code 24 = .ok (.iload_n 3, 1) := by decide +kernel
theorem d_X_count_25 : decode prog_9_method_31_code 25 = .ok (.bipush 6, 2) := by decide +kernel
theorem d_X_count_27 : decode prog_9_method_31_code 27 = .ok (.irem, 1) := by decide +kernel
theorem d_X_count_28 : decode prog_9_method_31_code 28 = .ok (.baload, 1) := by decide +kernel
theorem d_X_count_29 : decode prog_9_method_31_code 29 = .ok (.ifCond .eq 7, 3) := by decide +kernel
theorem d_X_count_32 : decode prog_9_method_31_code 32 = .ok (.iconst 1, 1) := by decide +kernel
theorem d_X_count_33 : decode prog_9_method_31_code 33 = .ok (.goto 72, 3) := by decide +kernel
theorem d_X_count_36 : decode prog_9_method_31_code 36 = .ok (.iconst 0, 1) := by decide +kernel
theorem d_X_count_37 : decode prog_9_method_31_code 37 = .ok (.goto 68, 3) := by decide +kernel
theorem d_X_count_40 : decode prog_9_method_31_code 40 = .ok (.iload_n 1, 1) := by decide +kernel
theorem d_X_count_41 : decode prog_9_method_31_code 41 = .ok (.iconst 1, 1) := by decide +kernel
theorem d_X_count_42 : decode prog_9_method_31_code 42 = .ok (.if_icmp .ne 20, 3) := by decide +kernel
theorem d_X_count_45 : decode prog_9_method_31_code 45 = .ok (.aload_n 0, 1) := by decide +kernel
theorem d_X_count_46 : decode prog_9_method_31_code 46 = .ok (.getfield 32, 3) := by decide +kernel
theorem d_X_count_49 : decode prog_9_method_31_code 49 = .ok (.iload_n 3, 1) := by decide +kernel
theorem d_X_count_50 : decode prog_9_method_31_code 50 = .ok (.iaload, 1) := by decide +kernel
theorem d_X_count_51 : decode prog_9_method_31_code 51 = .ok (.ifCond .le 7, 3) := by decide +kernel
theorem d_X_count_54 : decode prog_9_method_31_code 54 = .ok (.iconst 1, 1) := by decide +kernel
theorem d_X_count_55 : decode prog_9_method_31_code 55 = .ok (.goto 50, 3) := by decide +kernel
theorem d_X_count_58 : decode prog_9_method_31_code 58 = .ok (.iconst 0, 1) := by decide +kernel
theorem d_X_count_59 : decode prog_9_method_31_code 59 = .ok (.goto 46, 3) := by decide +kernel
theorem d_X_count_62 : decode prog_9_method_31_code 62 = .ok (.iload_n 1, 1) := by decide +kernel
theorem d_X_count_63 : decode prog_9_method_31_code 63 = .ok (.iconst 2, 1) := by decide +kernel
theorem d_X_count_64 : decode prog_9_method_31_code 64 = .ok (.if_icmp .ne 20, 3) := by decide +kernel
theorem d_X_count_67 : decode prog_9_method_31_code 67 = .ok (.aload_n 0, 1) := by decide +kernel
theorem d_X_count_68 : decode prog_9_method_31_code 68 = .ok (.getfield 41, 3) := by decide +kernel
theorem d_X_count_71 : decode prog_9_method_31_code 71 = .ok (.iload_n 3, 1) := by decide +kernel
theorem d_X_count_72 : decode prog_9_method_31_code 72 = .ok (.iaload, 1) := by decide +kernel
theorem d_X_count_73 : decode prog_9_method_31_code 73 = .ok (.ifCond .le 7, 3) := by decide +kernel
theorem d_X_count_76 : decode prog_9_method_31_code 76 = .ok (.iconst 1, 1) := by decide +kernel
theorem d_X_count_77 : decode prog_9_method_31_code 77 = .ok (.goto 28, 3) := by decide +kernel
theorem d_X_count_80 : decode prog_9_method_31_code 80 = .ok (.iconst 0, 1) := by decide +kernel
theorem d_X_count_81 : decode prog_9_method_31_code 81 = .ok (.goto 24, 3) := by decide +kernel
theorem d_X_count_84 : decode prog_9_method_31_code 84 = .ok (.iload_n 3, 1) := by decide +kernel
theorem d_X_count_85 : decode prog_9_method_31_code 85 = .ok (.iconst 2, 1) := by decide +kernel
theorem d_X_count_86 : decode prog_9_method_31_code 86 = .ok (.if_icmp .ge 18, 3) := by decide +kernel
theorem d_X_count_89 : decode prog_9_method_31_code 89 = .ok (.aload_n 0, 1) := by decide +kernel
theorem d_X_count_90 : decode prog_9_method_31_code 90 = .ok (.getfield 53, 3) := by decide +kernel
theorem d_X_count_93 : decode prog_9_method_31_code 93 = .ok (.iload_n 3, 1) := by decide +kernel
theorem d_X_count_94 : decode prog_9_method_31_code 94 = .ok (.iconst 2, 1) := by decide +kernel
theorem d_X_count_95 : decode prog_9_method_31_code 95 = .ok (.irem, 1) := by decide +kernel
theorem d_X_count_96 : decode prog_9_method_31_code 96 = .ok (.baload, 1) := by decide +kernel
theorem d_X_count_97 : decode prog_9_method_31_code 97 = .ok (.ifCond .eq 7, 3) := by decide +kernel
theorem d_X_count_100 : decode prog_9_method_31_code 100 = .ok (.iconst 1, 1) := by decide +kernel
theorem d_X_count_101 : decode prog_9_method_31_code 101 = .ok (.goto 4, 3) := by decide +kernel
theorem d_X_count_104 : decode prog_9_method_31_code 104 = .ok (.iconst 0, 1) := by decide +kernel
theorem d_X_count_105 : decode prog_9_method_31_code 105 = .ok (.istore 4, 2) := by decide +kernel
theorem d_X_count_107 : decode prog_9_method_31_code 107 = .ok (.iload_n 2, 1) := by decide +kernel
theorem d_X_count_108 : decode prog_9_method_31_code 108 = .ok (.iload 4, 2) := by decide +kernel
theorem d_X_count_110 : decode prog_9_method_31_code 110 = .ok (.ifCond .eq 7, 3) := by decide +kernel
theorem d_X_count_113 : decode prog_9_method_31_code 113 = .ok (.iconst 1, 1) := by decide +kernel
theorem d_X_count_114 : decode prog_9_method_31_code 114 = .ok (.goto 4, 3) := by decide +kernel
theorem d_X_count_117 : decode prog_9_method_31_code 117 = .ok (.iconst 0, 1) := by decide +kernel
theorem d_X_count_118 : decode prog_9_method_31_code 118 = .ok (.iadd, 1) := by decide +kernel
theorem d_X_count_119 : decode prog_9_method_31_code 119 = .ok (.istore_n 2, 1) := by decide +kernel
theorem d_X_count_120 : decode prog_9_method_31_code 120 = .ok (.iinc 3 1, 3) := by decide +kernel
theorem d_X_count_123 : decode prog_9_method_31_code 123 = .ok (.goto (-119), 3) := by decide +kernel
theorem d_X_count_126 : decode prog_9_method_31_code 126 = .ok (.iload_n 1, 1) := by decide +kernel
theorem d_X_count_127 : decode prog_9_method_31_code 127 = .ok (.ifCond .lt 8, 3) := by decide +kernel
theorem d_X_count_130 : decode prog_9_method_31_code 130 = .ok (.iload_n 1, 1) := by decide +kernel
theorem d_X_count_131 : decode prog_9_method_31_code 131 = .ok (.iconst 3, 1) := by decide +kernel
theorem d_X_count_132 : decode prog_9_method_31_code 132 = .ok (.if_icmp .le 7, 3) := by decide +kernel
theorem d_X_count_135 : decode prog_9_method_31_code 135 = .ok (.iconst (-1), 1) := by decide +kernel
theorem d_X_count_136 : decode prog_9_method_31_code 136 = .ok (.goto 4, 3) := by decide +kernel
theorem d_X_count_139 : decode prog_9_method_31_code 139 = .ok (.iload_n 2, 1) := by decide +kernel
theorem d_X_count_140 : decode prog_9_method_31_code 140 = .ok (.ireturn, 1) := by decide +kernel
def k_X_count_0 (G : oG) (Post : oP) : oK := o_iconst 0 <| o_istore 2 <| o_iconst 0 <| o_istore 3 <| o_jmp G m_X_count Post 4 [0, 1, 2, 3]
theorem s_X_count_0 {G : oG} {Post : oP} : oS G m_X_count Post 0 (k_X_count_0 G Post) := by
  unfold k_X_count_0
  refine so_iconst d_X_count_0 rfl ?_
  refine so_istore_n d_X_count_1 rfl (by decide) ?_
  refine so_iconst d_X_count_2 rfl ?_
  refine so_istore_n d_X_count_3 rfl (by decide) ?_
  exact so_jmp
def k_X_count_4 (G : oG) (Post : oP) : oK := o_iload 3 <| o_iconst 8 <| o_icmpge (o_iload 1 <| o_iflt (o_iconst (-1) <| o_iret Post) (o_iload 1 <| o_iconst 3 <| o_icmple (o_iload 2 <| o_iret Post) (o_iconst (-1) <| o_iret Post))) (o_iload 1 <| o_ifne (o_jmp G m_X_count Post 40 [0, 1, 2, 3]) (o_iload 3 <| o_iconst 6 <| o_icmpge (o_jmp G m_X_count Post 36 [0, 1, 2, 3]) (o_aload 0 <| o_getf 7 5 <| o_iload 3 <| o_iconst 6 <| o_irem <| o_zald <| o_ifeq (o_jmp G m_X_count Post 36 [0, 1, 2, 3]) (o_iconst 1 <| o_jmp G m_X_count Post 105 [0, 1, 2, 3]))))
theorem s_X_count_4 {G : oG} {Post : oP} : oS G m_X_count Post 4 (k_X_count_4 G Post) := by
  unfold k_X_count_4
  refine so_iload_n d_X_count_4 rfl ?_
  refine so_bipush d_X_count_5 rfl ?_
  refine so_icmpge d_X_count_7 (tgt := 126) (by decide) ?_ ?_
  · refine so_iload_n d_X_count_126 rfl ?_
    refine so_iflt d_X_count_127 (tgt := 135) (by decide) ?_ ?_
    · refine so_iconst d_X_count_135 rfl ?_
      refine so_goto d_X_count_136 (tgt := 140) (by decide) ?_
      exact so_iret d_X_count_140 rfl
    · refine so_iload_n d_X_count_130 rfl ?_
      refine so_iconst d_X_count_131 rfl ?_
      refine so_icmple d_X_count_132 (tgt := 139) (by decide) ?_ ?_
      · refine so_iload_n d_X_count_139 rfl ?_
        exact so_iret d_X_count_140 rfl
      · refine so_iconst d_X_count_135 rfl ?_
        refine so_goto d_X_count_136 (tgt := 140) (by decide) ?_
        exact so_iret d_X_count_140 rfl
  · refine so_iload_n d_X_count_10 rfl ?_
    refine so_ifne d_X_count_11 (tgt := 40) (by decide) ?_ ?_
    · exact so_jmp
    · refine so_iload_n d_X_count_14 rfl ?_
      refine so_bipush d_X_count_15 rfl ?_
      refine so_icmpge d_X_count_17 (tgt := 36) (by decide) ?_ ?_
      · exact so_jmp
      · refine so_aload_n d_X_count_20 rfl ?_
        refine so_getf cl_7 (k := 5) (by decide) w_567 d_X_count_21 ?_
        refine so_iload_n d_X_count_24 rfl ?_
        refine so_bipush d_X_count_25 rfl ?_
        refine so_irem d_X_count_27 ?_
        refine so_zald d_X_count_28 ?_
        refine so_ifeq d_X_count_29 (tgt := 36) (by decide) ?_ ?_
        · exact so_jmp
        · refine so_iconst d_X_count_32 rfl ?_
          refine so_goto d_X_count_33 (tgt := 105) (by decide) ?_
          exact so_jmp
def k_X_count_36 (G : oG) (Post : oP) : oK := o_iconst 0 <| o_jmp G m_X_count Post 105 [0, 1, 2, 3]
theorem s_X_count_36 {G : oG} {Post : oP} : oS G m_X_count Post 36 (k_X_count_36 G Post) := by
  unfold k_X_count_36
  refine so_iconst d_X_count_36 rfl ?_
  refine so_goto d_X_count_37 (tgt := 105) (by decide) ?_
  exact so_jmp
def k_X_count_40 (G : oG) (Post : oP) : oK := o_iload 1 <| o_iconst 1 <| o_icmpne (o_jmp G m_X_count Post 62 [0, 1, 2, 3]) (o_aload 0 <| o_getf 7 8 <| o_iload 3 <| o_iald G <| o_ifle (o_jmp G m_X_count Post 58 [0, 1, 2, 3]) (o_iconst 1 <| o_jmp G m_X_count Post 105 [0, 1, 2, 3]))
theorem s_X_count_40 {G : oG} {Post : oP} : oS G m_X_count Post 40 (k_X_count_40 G Post) := by
  unfold k_X_count_40
  refine so_iload_n d_X_count_40 rfl ?_
  refine so_iconst d_X_count_41 rfl ?_
  refine so_icmpne d_X_count_42 (tgt := 62) (by decide) ?_ ?_
  · exact so_jmp
  · refine so_aload_n d_X_count_45 rfl ?_
    refine so_getf cl_7 (k := 8) (by decide) w_570 d_X_count_46 ?_
    refine so_iload_n d_X_count_49 rfl ?_
    refine so_iald d_X_count_50 ?_
    refine so_ifle d_X_count_51 (tgt := 58) (by decide) ?_ ?_
    · exact so_jmp
    · refine so_iconst d_X_count_54 rfl ?_
      refine so_goto d_X_count_55 (tgt := 105) (by decide) ?_
      exact so_jmp
def k_X_count_58 (G : oG) (Post : oP) : oK := o_iconst 0 <| o_jmp G m_X_count Post 105 [0, 1, 2, 3]
theorem s_X_count_58 {G : oG} {Post : oP} : oS G m_X_count Post 58 (k_X_count_58 G Post) := by
  unfold k_X_count_58
  refine so_iconst d_X_count_58 rfl ?_
  refine so_goto d_X_count_59 (tgt := 105) (by decide) ?_
  exact so_jmp
def k_X_count_62 (G : oG) (Post : oP) : oK := o_iload 1 <| o_iconst 2 <| o_icmpne (o_jmp G m_X_count Post 84 [0, 1, 2, 3]) (o_aload 0 <| o_getf 7 11 <| o_iload 3 <| o_iald G <| o_ifle (o_jmp G m_X_count Post 80 [0, 1, 2, 3]) (o_iconst 1 <| o_jmp G m_X_count Post 105 [0, 1, 2, 3]))
theorem s_X_count_62 {G : oG} {Post : oP} : oS G m_X_count Post 62 (k_X_count_62 G Post) := by
  unfold k_X_count_62
  refine so_iload_n d_X_count_62 rfl ?_
  refine so_iconst d_X_count_63 rfl ?_
  refine so_icmpne d_X_count_64 (tgt := 84) (by decide) ?_ ?_
  · exact so_jmp
  · refine so_aload_n d_X_count_67 rfl ?_
    refine so_getf cl_7 (k := 11) (by decide) w_573 d_X_count_68 ?_
    refine so_iload_n d_X_count_71 rfl ?_
    refine so_iald d_X_count_72 ?_
    refine so_ifle d_X_count_73 (tgt := 80) (by decide) ?_ ?_
    · exact so_jmp
    · refine so_iconst d_X_count_76 rfl ?_
      refine so_goto d_X_count_77 (tgt := 105) (by decide) ?_
      exact so_jmp
def k_X_count_80 (G : oG) (Post : oP) : oK := o_iconst 0 <| o_jmp G m_X_count Post 105 [0, 1, 2, 3]
theorem s_X_count_80 {G : oG} {Post : oP} : oS G m_X_count Post 80 (k_X_count_80 G Post) := by
  unfold k_X_count_80
  refine so_iconst d_X_count_80 rfl ?_
  refine so_goto d_X_count_81 (tgt := 105) (by decide) ?_
  exact so_jmp
def k_X_count_84 (G : oG) (Post : oP) : oK := o_iload 3 <| o_iconst 2 <| o_icmpge (o_jmp G m_X_count Post 104 [0, 1, 2, 3]) (o_aload 0 <| o_getf 7 15 <| o_iload 3 <| o_iconst 2 <| o_irem <| o_zald <| o_ifeq (o_jmp G m_X_count Post 104 [0, 1, 2, 3]) (o_iconst 1 <| o_jmp G m_X_count Post 105 [0, 1, 2, 3]))
theorem s_X_count_84 {G : oG} {Post : oP} : oS G m_X_count Post 84 (k_X_count_84 G Post) := by
  unfold k_X_count_84
  refine so_iload_n d_X_count_84 rfl ?_
  refine so_iconst d_X_count_85 rfl ?_
  refine so_icmpge d_X_count_86 (tgt := 104) (by decide) ?_ ?_
  · exact so_jmp
  · refine so_aload_n d_X_count_89 rfl ?_
    refine so_getf cl_7 (k := 15) (by decide) w_577 d_X_count_90 ?_
    refine so_iload_n d_X_count_93 rfl ?_
    refine so_iconst d_X_count_94 rfl ?_
    refine so_irem d_X_count_95 ?_
    refine so_zald d_X_count_96 ?_
    refine so_ifeq d_X_count_97 (tgt := 104) (by decide) ?_ ?_
    · exact so_jmp
    · refine so_iconst d_X_count_100 rfl ?_
      refine so_goto d_X_count_101 (tgt := 105) (by decide) ?_
      exact so_jmp
def k_X_count_104 (G : oG) (Post : oP) : oK := o_iconst 0 <| o_jmp G m_X_count Post 105 [0, 1, 2, 3]
theorem s_X_count_104 {G : oG} {Post : oP} : oS G m_X_count Post 104 (k_X_count_104 G Post) := by
  unfold k_X_count_104
  refine so_iconst d_X_count_104 rfl ?_
  exact so_jmp
def k_X_count_105 (G : oG) (Post : oP) : oK := o_istore 4 <| o_iload 2 <| o_iload 4 <| o_ifeq (o_iconst 0 <| o_iadd <| o_istore 2 <| o_iinc 3 1 <| o_jmp G m_X_count Post 4 [0, 1, 2, 3]) (o_iconst 1 <| o_iadd <| o_istore 2 <| o_iinc 3 1 <| o_jmp G m_X_count Post 4 [0, 1, 2, 3])
theorem s_X_count_105 {G : oG} {Post : oP} : oS G m_X_count Post 105 (k_X_count_105 G Post) := by
  unfold k_X_count_105
  refine so_istore d_X_count_105 (by decide) ?_
  refine so_iload_n d_X_count_107 rfl ?_
  refine so_iload d_X_count_108 ?_
  refine so_ifeq d_X_count_110 (tgt := 117) (by decide) ?_ ?_
  · refine so_iconst d_X_count_117 rfl ?_
    refine so_iadd d_X_count_118 ?_
    refine so_istore_n d_X_count_119 rfl (by decide) ?_
    refine so_iinc d_X_count_120 rfl (by decide) ?_
    refine so_goto d_X_count_123 (tgt := 4) (by decide) ?_
    exact so_jmp
  · refine so_iconst d_X_count_113 rfl ?_
    refine so_goto d_X_count_114 (tgt := 118) (by decide) ?_
    refine so_iadd d_X_count_118 ?_
    refine so_istore_n d_X_count_119 rfl (by decide) ?_
    refine so_iinc d_X_count_120 rfl (by decide) ?_
    refine so_goto d_X_count_123 (tgt := 4) (by decide) ?_
    exact so_jmp
theorem d_X_pipes_0 : decode prog_9_method_52_code 0 = .ok (.aload_n 0, 1) := by decide +kernel
theorem d_X_pipes_1 : decode prog_9_method_52_code 1 = .ok (.iconst 0, 1) := by decide +kernel
theorem d_X_pipes_2 : decode prog_9_method_52_code 2 = .ok (.putfield 162, 3) := by decide +kernel
theorem d_X_pipes_5 : decode prog_9_method_52_code 5 = .ok (.aload_n 0, 1) := by decide +kernel
theorem d_X_pipes_6 : decode prog_9_method_52_code 6 = .ok (.aload_n 0, 1) := by decide +kernel
theorem d_X_pipes_7 : decode prog_9_method_52_code 7 = .ok (.getfield 96, 3) := by decide +kernel
theorem d_X_pipes_10 : decode prog_9_method_52_code 10 = .ok (.iconst 2, 1) := by decide +kernel
theorem d_X_pipes_11 : decode prog_9_method_52_code 11 = .ok (.iconst 2, 1) := by decide +kernel
theorem d_X_pipes_12 : decode prog_9_method_52_code 12 = .ok (.invokevirtual 203, 3) := by decide +kernel
theorem d_X_pipes_15 : decode prog_9_method_52_code 15 = .ok (.ifCond .ne 6, 3) := by decide +kernel
theorem d_X_pipes_18 : decode prog_9_method_52_code 18 = .ok (.bipush (-14), 2) := by decide +kernel
theorem d_X_pipes_20 : decode prog_9_method_52_code 20 = .ok (.ireturn, 1) := by decide +kernel
theorem d_X_pipes_21 : decode prog_9_method_52_code 21 = .ok (.aload_n 0, 1) := by decide +kernel
theorem d_X_pipes_22 : decode prog_9_method_52_code 22 = .ok (.aload_n 0, 1) := by decide +kernel
theorem d_X_pipes_23 : decode prog_9_method_52_code 23 = .ok (.getfield 92, 3) := by decide +kernel
theorem d_X_pipes_26 : decode prog_9_method_52_code 26 = .ok (.invokevirtual 233, 3) := by decide +kernel
theorem d_X_pipes_29 : decode prog_9_method_52_code 29 = .ok (.iconst 3, 1) := by decide +kernel
theorem d_X_pipes_30 : decode prog_9_method_52_code 30 = .ok (.if_icmp .le 6, 3) := by decide +kernel
theorem d_X_pipes_33 : decode prog_9_method_52_code 33 = .ok (.bipush (-24), 2) := by decide +kernel
theorem d_X_pipes_35 : decode prog_9_method_52_code 35 = .ok (.ireturn, 1) := by decide +kernel
theorem d_X_pipes_36 : decode prog_9_method_52_code 36 = .ok (.aload_n 0, 1) := by decide +kernel
theorem d_X_pipes_37 : decode prog_9_method_52_code 37 = .ok (.iconst 2, 1) := by decide +kernel
theorem d_X_pipes_38 : decode prog_9_method_52_code 38 = .ok (.invokevirtual 236, 3) := by decide +kernel
theorem d_X_pipes_41 : decode prog_9_method_52_code 41 = .ok (.bipush 6, 2) := by decide +kernel
theorem d_X_pipes_43 : decode prog_9_method_52_code 43 = .ok (.if_icmp .gt 12, 3) := by decide +kernel
theorem d_X_pipes_46 : decode prog_9_method_52_code 46 = .ok (.aload_n 0, 1) := by decide +kernel
theorem d_X_pipes_47 : decode prog_9_method_52_code 47 = .ok (.iconst 3, 1) := by decide +kernel
theorem d_X_pipes_48 : decode prog_9_method_52_code 48 = .ok (.invokevirtual 236, 3) := by decide +kernel
theorem d_X_pipes_51 : decode prog_9_method_52_code 51 = .ok (.iconst 2, 1) := by decide +kernel
theorem d_X_pipes_52 : decode prog_9_method_52_code 52 = .ok (.if_icmp .ne 6, 3) := by decide +kernel
theorem d_X_pipes_55 : decode prog_9_method_52_code 55 = .ok (.bipush (-23), 2) := by decide +kernel
theorem d_X_pipes_57 : decode prog_9_method_52_code 57 = .ok (.ireturn, 1) := by decide +kernel
theorem d_X_pipes_58 : decode prog_9_method_52_code 58 = .ok (.aload_n 0, 1) := by decide +kernel
theorem d_X_pipes_59 : decode prog_9_method_52_code 59 = .ok (.getfield 53, 3) := by decide +kernel
theorem d_X_pipes_62 : decode prog_9_method_52_code 62 = .ok (.iconst 0, 1) := by decide +kernel
theorem d_X_pipes_63 : decode prog_9_method_52_code 63 = .ok (.baload, 1) := by decide +kernel
theorem d_X_pipes_64 : decode prog_9_method_52_code 64 = .ok (.ifCond .eq 7, 3) := by decide +kernel
theorem d_X_pipes_67 : decode prog_9_method_52_code 67 = .ok (.iconst 1, 1) := by decide +kernel
theorem d_X_pipes_68 : decode prog_9_method_52_code 68 = .ok (.goto 4, 3) := by decide +kernel
theorem d_X_pipes_71 : decode prog_9_method_52_code 71 = .ok (.iconst 0, 1) := by decide +kernel
theorem d_X_pipes_72 : decode prog_9_method_52_code 72 = .ok (.istore_n 1, 1) := by decide +kernel
theorem d_X_pipes_73 : decode prog_9_method_52_code 73 = .ok (.aload_n 0, 1) := by decide +kernel
theorem d_X_pipes_74 : decode prog_9_method_52_code 74 = .ok (.getfield 53, 3) := by decide +kernel
theorem d_X_pipes_77 : decode prog_9_method_52_code 77 = .ok (.iload_n 1, 1) := by decide +kernel
theorem d_X_pipes_78 : decode prog_9_method_52_code 78 = .ok (.iconst 1, 1) := by decide +kernel
theorem d_X_pipes_79 : decode prog_9_method_52_code 79 = .ok (.bastore, 1) := by decide +kernel
theorem d_X_pipes_80 : decode prog_9_method_52_code 80 = .ok (.aload_n 0, 1) := by decide +kernel
theorem d_X_pipes_81 : decode prog_9_method_52_code 81 = .ok (.getfield 56, 3) := by decide +kernel
theorem d_X_pipes_84 : decode prog_9_method_52_code 84 = .ok (.iload_n 1, 1) := by decide +kernel
theorem d_X_pipes_85 : decode prog_9_method_52_code 85 = .ok (.iconst 0, 1) := by decide +kernel
theorem d_X_pipes_86 : decode prog_9_method_52_code 86 = .ok (.iastore, 1) := by decide +kernel
theorem d_X_pipes_87 : decode prog_9_method_52_code 87 = .ok (.aload_n 0, 1) := by decide +kernel
theorem d_X_pipes_88 : decode prog_9_method_52_code 88 = .ok (.aload_n 0, 1) := by decide +kernel
theorem d_X_pipes_89 : decode prog_9_method_52_code 89 = .ok (.invokevirtual 183, 3) := by decide +kernel
theorem d_X_pipes_92 : decode prog_9_method_52_code 92 = .ok (.iconst 2, 1) := by decide +kernel
theorem d_X_pipes_93 : decode prog_9_method_52_code 93 = .ok (.iload_n 1, 1) := by decide +kernel
theorem d_X_pipes_94 : decode prog_9_method_52_code 94 = .ok (.iconst 0, 1) := by decide +kernel
theorem d_X_pipes_95 : decode prog_9_method_52_code 95 = .ok (.invokevirtual 196, 3) := by decide +kernel
theorem d_X_pipes_98 : decode prog_9_method_52_code 98 = .ok (.istore_n 2, 1) := by decide +kernel
theorem d_X_pipes_99 : decode prog_9_method_52_code 99 = .ok (.aload_n 0, 1) := by decide +kernel
theorem d_X_pipes_100 : decode prog_9_method_52_code 100 = .ok (.aload_n 0, 1) := by decide +kernel
theorem d_X_pipes_101 : decode prog_9_method_52_code 101 = .ok (.invokevirtual 183, 3) := by decide +kernel
theorem d_X_pipes_104 : decode prog_9_method_52_code 104 = .ok (.iconst 3, 1) := by decide +kernel
theorem d_X_pipes_105 : decode prog_9_method_52_code 105 = .ok (.iload_n 1, 1) := by decide +kernel
theorem d_X_pipes_106 : decode prog_9_method_52_code 106 = .ok (.iconst 0, 1) := by decide +kernel
theorem d_X_pipes_107 : decode prog_9_method_52_code 107 = .ok (.invokevirtual 196, 3) := by decide +kernel
theorem d_X_pipes_110 : decode prog_9_method_52_code 110 = .ok (.istore_n 3, 1) := by decide +kernel
theorem d_X_pipes_111 : decode prog_9_method_52_code 111 = .ok (.aload_n 0, 1) := by decide +kernel
theorem d_X_pipes_112 : decode prog_9_method_52_code 112 = .ok (.getfield 7, 3) := by decide +kernel
theorem d_X_pipes_115 : decode prog_9_method_52_code 115 = .ok (.aload_n 0, 1) := by decide +kernel
theorem d_X_pipes_116 : decode prog_9_method_52_code 116 = .ok (.getfield 65, 3) := by decide +kernel
theorem d_X_pipes_119 : decode prog_9_method_52_code 119 = .ok (.iconst 0, 1) := by decide +kernel
theorem d_X_pipes_120 : decode prog_9_method_52_code 120 = .ok (.iaload, 1) := by decide +kernel
theorem d_X_pipes_121 : decode prog_9_method_52_code 121 = .ok (.iload_n 2, 1) := by decide +kernel
theorem d_X_pipes_122 : decode prog_9_method_52_code 122 = .ok (.iastore, 1) := by decide +kernel
theorem d_X_pipes_123 : decode prog_9_method_52_code 123 = .ok (.aload_n 0, 1) := by decide +kernel
theorem d_X_pipes_124 : decode prog_9_method_52_code 124 = .ok (.getfield 7, 3) := by decide +kernel
theorem d_X_pipes_127 : decode prog_9_method_52_code 127 = .ok (.aload_n 0, 1) := by decide +kernel
theorem d_X_pipes_128 : decode prog_9_method_52_code 128 = .ok (.getfield 65, 3) := by decide +kernel
theorem d_X_pipes_131 : decode prog_9_method_52_code 131 = .ok (.iconst 1, 1) := by decide +kernel
theorem d_X_pipes_132 : decode prog_9_method_52_code 132 = .ok (.iaload, 1) := by decide +kernel
theorem d_X_pipes_133 : decode prog_9_method_52_code 133 = .ok (.iload_n 3, 1) := by decide +kernel
theorem d_X_pipes_134 : decode prog_9_method_52_code 134 = .ok (.iastore, 1) := by decide +kernel
theorem d_X_pipes_135 : decode prog_9_method_52_code 135 = .ok (.iconst 0, 1) := by decide +kernel
theorem d_X_pipes_136 : decode prog_9_method_52_code 136 = .ok (.ireturn, 1) := by decide +kernel
def k_X_pipes_0 (G : oG) (Post : oP) : oK := o_aload 0 <| o_iconst 0 <| o_putfI 7 23 <| o_aload 0 <| o_aload 0 <| o_getf 7 20 <| o_iconst 2 <| o_iconst 2 <| o_callV G 7 m_X_range 3 <| o_jmp G m_X_pipes Post 15 [0]
theorem s_X_pipes_0 {G : oG} {Post : oP} : oS G m_X_pipes Post 0 (k_X_pipes_0 G Post) := by
  unfold k_X_pipes_0
  refine so_aload_n d_X_pipes_0 rfl ?_
  refine so_iconst d_X_pipes_1 rfl ?_
  refine so_putfI cl_7 (k := 23) (by decide) rfl rfl w_585 d_X_pipes_2 ?_
  refine so_aload_n d_X_pipes_5 rfl ?_
  refine so_aload_n d_X_pipes_6 rfl ?_
  refine so_getf cl_7 (k := 20) (by decide) w_582 d_X_pipes_7 ?_
  refine so_iconst d_X_pipes_10 rfl ?_
  refine so_iconst d_X_pipes_11 rfl ?_
  refine so_callV cl_7 f_X_range w_759 w_46 w_757 (by decide) (by decide) d_X_pipes_12 ?_
  exact so_jmp
def k_X_pipes_15 (G : oG) (Post : oP) : oK := o_ifne (o_aload 0 <| o_aload 0 <| o_getf 7 19 <| o_callV G 7 m_X_descriptors 1 <| o_jmp G m_X_pipes Post 29 [0]) (o_iconst (-14) <| o_iret Post)
theorem s_X_pipes_15 {G : oG} {Post : oP} : oS G m_X_pipes Post 15 (k_X_pipes_15 G Post) := by
  unfold k_X_pipes_15
  refine so_ifne d_X_pipes_15 (tgt := 21) (by decide) ?_ ?_
  · refine so_aload_n d_X_pipes_21 rfl ?_
    refine so_aload_n d_X_pipes_22 rfl ?_
    refine so_getf cl_7 (k := 19) (by decide) w_581 d_X_pipes_23 ?_
    refine so_callV cl_7 f_X_descriptors w_822 w_823 w_821 (by decide) (by decide) d_X_pipes_26 ?_
    exact so_jmp
  · refine so_bipush d_X_pipes_18 rfl ?_
    exact so_iret d_X_pipes_20 rfl
def k_X_pipes_29 (G : oG) (Post : oP) : oK := o_iconst 3 <| o_icmple (o_aload 0 <| o_iconst 2 <| o_callV G 7 m_X_count 1 <| o_jmp G m_X_pipes Post 41 [0]) (o_iconst (-24) <| o_iret Post)
theorem s_X_pipes_29 {G : oG} {Post : oP} : oS G m_X_pipes Post 29 (k_X_pipes_29 G Post) := by
  unfold k_X_pipes_29
  refine so_iconst d_X_pipes_29 rfl ?_
  refine so_icmple d_X_pipes_30 (tgt := 36) (by decide) ?_ ?_
  · refine so_aload_n d_X_pipes_36 rfl ?_
    refine so_iconst d_X_pipes_37 rfl ?_
    refine so_callV cl_7 f_X_count w_826 w_827 w_825 (by decide) (by decide) d_X_pipes_38 ?_
    exact so_jmp
  · refine so_bipush d_X_pipes_33 rfl ?_
    exact so_iret d_X_pipes_35 rfl
def k_X_pipes_41 (G : oG) (Post : oP) : oK := o_iconst 6 <| o_icmpgt (o_iconst (-23) <| o_iret Post) (o_aload 0 <| o_iconst 3 <| o_callV G 7 m_X_count 1 <| o_jmp G m_X_pipes Post 51 [0])
theorem s_X_pipes_41 {G : oG} {Post : oP} : oS G m_X_pipes Post 41 (k_X_pipes_41 G Post) := by
  unfold k_X_pipes_41
  refine so_bipush d_X_pipes_41 rfl ?_
  refine so_icmpgt d_X_pipes_43 (tgt := 55) (by decide) ?_ ?_
  · refine so_bipush d_X_pipes_55 rfl ?_
    exact so_iret d_X_pipes_57 rfl
  · refine so_aload_n d_X_pipes_46 rfl ?_
    refine so_iconst d_X_pipes_47 rfl ?_
    refine so_callV cl_7 f_X_count w_826 w_827 w_825 (by decide) (by decide) d_X_pipes_48 ?_
    exact so_jmp
def k_X_pipes_51 (G : oG) (Post : oP) : oK := o_iconst 2 <| o_icmpne (o_jmp G m_X_pipes Post 58 [0]) (o_iconst (-23) <| o_iret Post)
theorem s_X_pipes_51 {G : oG} {Post : oP} : oS G m_X_pipes Post 51 (k_X_pipes_51 G Post) := by
  unfold k_X_pipes_51
  refine so_iconst d_X_pipes_51 rfl ?_
  refine so_icmpne d_X_pipes_52 (tgt := 58) (by decide) ?_ ?_
  · exact so_jmp
  · refine so_bipush d_X_pipes_55 rfl ?_
    exact so_iret d_X_pipes_57 rfl
def k_X_pipes_58 (G : oG) (Post : oP) : oK := o_aload 0 <| o_getf 7 15 <| o_iconst 0 <| o_zald <| o_ifeq (o_jmp G m_X_pipes Post 71 [0]) (o_iconst 1 <| o_istore 1 <| o_aload 0 <| o_getf 7 15 <| o_iload 1 <| o_iconst 1 <| o_zast <| o_aload 0 <| o_getf 7 16 <| o_iload 1 <| o_iconst 0 <| o_iast <| o_aload 0 <| o_aload 0 <| o_callV G 7 m_X_freeDescriptor 0 <| o_jmp G m_X_pipes Post 92 [0, 1])
theorem s_X_pipes_58 {G : oG} {Post : oP} : oS G m_X_pipes Post 58 (k_X_pipes_58 G Post) := by
  unfold k_X_pipes_58
  refine so_aload_n d_X_pipes_58 rfl ?_
  refine so_getf cl_7 (k := 15) (by decide) w_577 d_X_pipes_59 ?_
  refine so_iconst d_X_pipes_62 rfl ?_
  refine so_zald d_X_pipes_63 ?_
  refine so_ifeq d_X_pipes_64 (tgt := 71) (by decide) ?_ ?_
  · exact so_jmp
  · refine so_iconst d_X_pipes_67 rfl ?_
    refine so_goto d_X_pipes_68 (tgt := 72) (by decide) ?_
    refine so_istore_n d_X_pipes_72 rfl (by decide) ?_
    refine so_aload_n d_X_pipes_73 rfl ?_
    refine so_getf cl_7 (k := 15) (by decide) w_577 d_X_pipes_74 ?_
    refine so_iload_n d_X_pipes_77 rfl ?_
    refine so_iconst d_X_pipes_78 rfl ?_
    refine so_zast d_X_pipes_79 ?_
    refine so_aload_n d_X_pipes_80 rfl ?_
    refine so_getf cl_7 (k := 16) (by decide) w_578 d_X_pipes_81 ?_
    refine so_iload_n d_X_pipes_84 rfl ?_
    refine so_iconst d_X_pipes_85 rfl ?_
    refine so_iast d_X_pipes_86 ?_
    refine so_aload_n d_X_pipes_87 rfl ?_
    refine so_aload_n d_X_pipes_88 rfl ?_
    refine so_callV cl_7 f_X_freeDescriptor w_719 w_36 w_717 (by decide) (by decide) d_X_pipes_89 ?_
    exact so_jmp
def k_X_pipes_71 (G : oG) (Post : oP) : oK := o_iconst 0 <| o_istore 1 <| o_aload 0 <| o_getf 7 15 <| o_iload 1 <| o_iconst 1 <| o_zast <| o_aload 0 <| o_getf 7 16 <| o_iload 1 <| o_iconst 0 <| o_iast <| o_aload 0 <| o_aload 0 <| o_callV G 7 m_X_freeDescriptor 0 <| o_jmp G m_X_pipes Post 92 [0, 1]
theorem s_X_pipes_71 {G : oG} {Post : oP} : oS G m_X_pipes Post 71 (k_X_pipes_71 G Post) := by
  unfold k_X_pipes_71
  refine so_iconst d_X_pipes_71 rfl ?_
  refine so_istore_n d_X_pipes_72 rfl (by decide) ?_
  refine so_aload_n d_X_pipes_73 rfl ?_
  refine so_getf cl_7 (k := 15) (by decide) w_577 d_X_pipes_74 ?_
  refine so_iload_n d_X_pipes_77 rfl ?_
  refine so_iconst d_X_pipes_78 rfl ?_
  refine so_zast d_X_pipes_79 ?_
  refine so_aload_n d_X_pipes_80 rfl ?_
  refine so_getf cl_7 (k := 16) (by decide) w_578 d_X_pipes_81 ?_
  refine so_iload_n d_X_pipes_84 rfl ?_
  refine so_iconst d_X_pipes_85 rfl ?_
  refine so_iast d_X_pipes_86 ?_
  refine so_aload_n d_X_pipes_87 rfl ?_
  refine so_aload_n d_X_pipes_88 rfl ?_
  refine so_callV cl_7 f_X_freeDescriptor w_719 w_36 w_717 (by decide) (by decide) d_X_pipes_89 ?_
  exact so_jmp
def k_X_pipes_92 (G : oG) (Post : oP) : oK := o_iconst 2 <| o_iload 1 <| o_iconst 0 <| o_callV G 7 m_X_newOpen 4 <| o_jmp G m_X_pipes Post 98 [0, 1]
theorem s_X_pipes_92 {G : oG} {Post : oP} : oS G m_X_pipes Post 92 (k_X_pipes_92 G Post) := by
  unfold k_X_pipes_92
  refine so_iconst d_X_pipes_92 rfl ?_
  refine so_iload_n d_X_pipes_93 rfl ?_
  refine so_iconst d_X_pipes_94 rfl ?_
  refine so_callV cl_7 f_X_newOpen w_739 w_41 w_737 (by decide) (by decide) d_X_pipes_95 ?_
  exact so_jmp
def k_X_pipes_98 (G : oG) (Post : oP) : oK := o_istore 2 <| o_aload 0 <| o_aload 0 <| o_callV G 7 m_X_freeDescriptor 0 <| o_jmp G m_X_pipes Post 104 [0, 1, 2]
theorem s_X_pipes_98 {G : oG} {Post : oP} : oS G m_X_pipes Post 98 (k_X_pipes_98 G Post) := by
  unfold k_X_pipes_98
  refine so_istore_n d_X_pipes_98 rfl (by decide) ?_
  refine so_aload_n d_X_pipes_99 rfl ?_
  refine so_aload_n d_X_pipes_100 rfl ?_
  refine so_callV cl_7 f_X_freeDescriptor w_719 w_36 w_717 (by decide) (by decide) d_X_pipes_101 ?_
  exact so_jmp
def k_X_pipes_104 (G : oG) (Post : oP) : oK := o_iconst 3 <| o_iload 1 <| o_iconst 0 <| o_callV G 7 m_X_newOpen 4 <| o_jmp G m_X_pipes Post 110 [0, 2]
theorem s_X_pipes_104 {G : oG} {Post : oP} : oS G m_X_pipes Post 104 (k_X_pipes_104 G Post) := by
  unfold k_X_pipes_104
  refine so_iconst d_X_pipes_104 rfl ?_
  refine so_iload_n d_X_pipes_105 rfl ?_
  refine so_iconst d_X_pipes_106 rfl ?_
  refine so_callV cl_7 f_X_newOpen w_739 w_41 w_737 (by decide) (by decide) d_X_pipes_107 ?_
  exact so_jmp
def k_X_pipes_110 (G : oG) (Post : oP) : oK := o_istore 3 <| o_aload 0 <| o_getf 7 0 <| o_aload 0 <| o_getf 7 24 <| o_iconst 0 <| o_iald G <| o_iload 2 <| o_iast <| o_aload 0 <| o_getf 7 0 <| o_aload 0 <| o_getf 7 24 <| o_iconst 1 <| o_iald G <| o_iload 3 <| o_iast <| o_iconst 0 <| o_iret Post
theorem s_X_pipes_110 {G : oG} {Post : oP} : oS G m_X_pipes Post 110 (k_X_pipes_110 G Post) := by
  unfold k_X_pipes_110
  refine so_istore_n d_X_pipes_110 rfl (by decide) ?_
  refine so_aload_n d_X_pipes_111 rfl ?_
  refine so_getf cl_7 (k := 0) (by decide) w_562 d_X_pipes_112 ?_
  refine so_aload_n d_X_pipes_115 rfl ?_
  refine so_getf cl_7 (k := 24) (by decide) w_586 d_X_pipes_116 ?_
  refine so_iconst d_X_pipes_119 rfl ?_
  refine so_iald d_X_pipes_120 ?_
  refine so_iload_n d_X_pipes_121 rfl ?_
  refine so_iast d_X_pipes_122 ?_
  refine so_aload_n d_X_pipes_123 rfl ?_
  refine so_getf cl_7 (k := 0) (by decide) w_562 d_X_pipes_124 ?_
  refine so_aload_n d_X_pipes_127 rfl ?_
  refine so_getf cl_7 (k := 24) (by decide) w_586 d_X_pipes_128 ?_
  refine so_iconst d_X_pipes_131 rfl ?_
  refine so_iald d_X_pipes_132 ?_
  refine so_iload_n d_X_pipes_133 rfl ?_
  refine so_iast d_X_pipes_134 ?_
  refine so_iconst d_X_pipes_135 rfl ?_
  exact so_iret d_X_pipes_136 rfl
theorem d_X_before_0 : decode prog_9_method_50_code 0 = .ok (.iconst 0, 1) := by decide +kernel
theorem d_X_before_1 : decode prog_9_method_50_code 1 = .ok (.istore_n 3, 1) := by decide +kernel
theorem d_X_before_2 : decode prog_9_method_50_code 2 = .ok (.iload_n 3, 1) := by decide +kernel
theorem d_X_before_3 : decode prog_9_method_50_code 3 = .ok (.aload_n 0, 1) := by decide +kernel
theorem d_X_before_4 : decode prog_9_method_50_code 4 = .ok (.getfield 32, 3) := by decide +kernel
theorem d_X_before_7 : decode prog_9_method_50_code 7 = .ok (.iload_n 1, 1) := by decide +kernel
theorem d_X_before_8 : decode prog_9_method_50_code 8 = .ok (.iaload, 1) := by decide +kernel
theorem d_X_before_9 : decode prog_9_method_50_code 9 = .ok (.if_icmp .ge 44, 3) := by decide +kernel
theorem d_X_before_12 : decode prog_9_method_50_code 12 = .ok (.iload_n 3, 1) := by decide +kernel
theorem d_X_before_13 : decode prog_9_method_50_code 13 = .ok (.aload_n 0, 1) := by decide +kernel
theorem d_X_before_14 : decode prog_9_method_50_code 14 = .ok (.getfield 32, 3) := by decide +kernel
theorem d_X_before_17 : decode prog_9_method_50_code 17 = .ok (.iload_n 2, 1) := by decide +kernel
theorem d_X_before_18 : decode prog_9_method_50_code 18 = .ok (.iaload, 1) := by decide +kernel
theorem d_X_before_19 : decode prog_9_method_50_code 19 = .ok (.if_icmp .ge 34, 3) := by decide +kernel
theorem d_X_before_22 : decode prog_9_method_50_code 22 = .ok (.aload_n 0, 1) := by decide +kernel
theorem d_X_before_23 : decode prog_9_method_50_code 23 = .ok (.getfield 35, 3) := by decide +kernel
theorem d_X_before_26 : decode prog_9_method_50_code 26 = .ok (.bipush 8, 2) := by decide +kernel
theorem d_X_before_28 : decode prog_9_method_50_code 28 = .ok (.iload_n 1, 1) := by decide +kernel
theorem d_X_before_29 : decode prog_9_method_50_code 29 = .ok (.imul, 1) := by decide +kernel
theorem d_X_before_30 : decode prog_9_method_50_code 30 = .ok (.iload_n 3, 1) := by decide +kernel
theorem d_X_before_31 : decode prog_9_method_50_code 31 = .ok (.iadd, 1) := by decide +kernel
theorem d_X_before_32 : decode prog_9_method_50_code 32 = .ok (.iaload, 1) := by decide +kernel
theorem d_X_before_33 : decode prog_9_method_50_code 33 = .ok (.aload_n 0, 1) := by decide +kernel
theorem d_X_before_34 : decode prog_9_method_50_code 34 = .ok (.getfield 35, 3) := by decide +kernel
theorem d_X_before_37 : decode prog_9_method_50_code 37 = .ok (.bipush 8, 2) := by decide +kernel
theorem d_X_before_39 : decode prog_9_method_50_code 39 = .ok (.iload_n 2, 1) := by decide +kernel
theorem d_X_before_40 : decode prog_9_method_50_code 40 = .ok (.imul, 1) := by decide +kernel
theorem d_X_before_41 : decode prog_9_method_50_code 41 = .ok (.iload_n 3, 1) := by decide +kernel
theorem d_X_before_42 : decode prog_9_method_50_code 42 = .ok (.iadd, 1) := by decide +kernel
theorem d_X_before_43 : decode prog_9_method_50_code 43 = .ok (.iaload, 1) := by decide +kernel
theorem d_X_before_44 : decode prog_9_method_50_code 44 = .ok (.if_icmp .ne 9, 3) := by decide +kernel
theorem d_X_before_47 : decode prog_9_method_50_code 47 = .ok (.iinc 3 1, 3) := by decide +kernel
theorem d_X_before_50 : decode prog_9_method_50_code 50 = .ok (.goto (-48), 3) := by decide +kernel
theorem d_X_before_53 : decode prog_9_method_50_code 53 = .ok (.iload_n 3, 1) := by decide +kernel
theorem d_X_before_54 : decode prog_9_method_50_code 54 = .ok (.aload_n 0, 1) := by decide +kernel
theorem d_X_before_55 : decode prog_9_method_50_code 55 = .ok (.getfield 32, 3) := by decide +kernel
theorem d_X_before_58 : decode prog_9_method_50_code 58 = .ok (.iload_n 1, 1) := by decide +kernel
theorem d_X_before_59 : decode prog_9_method_50_code 59 = .ok (.iaload, 1) := by decide +kernel
theorem d_X_before_60 : decode prog_9_method_50_code 60 = .ok (.if_icmp .eq 13, 3) := by decide +kernel
theorem d_X_before_63 : decode prog_9_method_50_code 63 = .ok (.iload_n 3, 1) := by decide +kernel
theorem d_X_before_64 : decode prog_9_method_50_code 64 = .ok (.aload_n 0, 1) := by decide +kernel
theorem d_X_before_65 : decode prog_9_method_50_code 65 = .ok (.getfield 32, 3) := by decide +kernel
theorem d_X_before_68 : decode prog_9_method_50_code 68 = .ok (.iload_n 2, 1) := by decide +kernel
theorem d_X_before_69 : decode prog_9_method_50_code 69 = .ok (.iaload, 1) := by decide +kernel
theorem d_X_before_70 : decode prog_9_method_50_code 70 = .ok (.if_icmp .ne 24, 3) := by decide +kernel
theorem d_X_before_73 : decode prog_9_method_50_code 73 = .ok (.aload_n 0, 1) := by decide +kernel
theorem d_X_before_74 : decode prog_9_method_50_code 74 = .ok (.getfield 32, 3) := by decide +kernel
theorem d_X_before_77 : decode prog_9_method_50_code 77 = .ok (.iload_n 1, 1) := by decide +kernel
theorem d_X_before_78 : decode prog_9_method_50_code 78 = .ok (.iaload, 1) := by decide +kernel
theorem d_X_before_79 : decode prog_9_method_50_code 79 = .ok (.aload_n 0, 1) := by decide +kernel
theorem d_X_before_80 : decode prog_9_method_50_code 80 = .ok (.getfield 32, 3) := by decide +kernel
theorem d_X_before_83 : decode prog_9_method_50_code 83 = .ok (.iload_n 2, 1) := by decide +kernel
theorem d_X_before_84 : decode prog_9_method_50_code 84 = .ok (.iaload, 1) := by decide +kernel
theorem d_X_before_85 : decode prog_9_method_50_code 85 = .ok (.if_icmp .ge 7, 3) := by decide +kernel
theorem d_X_before_88 : decode prog_9_method_50_code 88 = .ok (.iconst 1, 1) := by decide +kernel
theorem d_X_before_89 : decode prog_9_method_50_code 89 = .ok (.goto 4, 3) := by decide +kernel
theorem d_X_before_92 : decode prog_9_method_50_code 92 = .ok (.iconst 0, 1) := by decide +kernel
theorem d_X_before_93 : decode prog_9_method_50_code 93 = .ok (.ireturn, 1) := by decide +kernel
theorem d_X_before_94 : decode prog_9_method_50_code 94 = .ok (.aload_n 0, 1) := by decide +kernel
theorem d_X_before_95 : decode prog_9_method_50_code 95 = .ok (.getfield 35, 3) := by decide +kernel
theorem d_X_before_98 : decode prog_9_method_50_code 98 = .ok (.bipush 8, 2) := by decide +kernel
theorem d_X_before_100 : decode prog_9_method_50_code 100 = .ok (.iload_n 1, 1) := by decide +kernel
theorem d_X_before_101 : decode prog_9_method_50_code 101 = .ok (.imul, 1) := by decide +kernel
theorem d_X_before_102 : decode prog_9_method_50_code 102 = .ok (.iload_n 3, 1) := by decide +kernel
theorem d_X_before_103 : decode prog_9_method_50_code 103 = .ok (.iadd, 1) := by decide +kernel
theorem d_X_before_104 : decode prog_9_method_50_code 104 = .ok (.iaload, 1) := by decide +kernel
theorem d_X_before_105 : decode prog_9_method_50_code 105 = .ok (.aload_n 0, 1) := by decide +kernel
theorem d_X_before_106 : decode prog_9_method_50_code 106 = .ok (.getfield 35, 3) := by decide +kernel
theorem d_X_before_109 : decode prog_9_method_50_code 109 = .ok (.bipush 8, 2) := by decide +kernel
theorem d_X_before_111 : decode prog_9_method_50_code 111 = .ok (.iload_n 2, 1) := by decide +kernel
theorem d_X_before_112 : decode prog_9_method_50_code 112 = .ok (.imul, 1) := by decide +kernel
theorem d_X_before_113 : decode prog_9_method_50_code 113 = .ok (.iload_n 3, 1) := by decide +kernel
theorem d_X_before_114 : decode prog_9_method_50_code 114 = .ok (.iadd, 1) := by decide +kernel
theorem d_X_before_115 : decode prog_9_method_50_code 115 = .ok (.iaload, 1) := by decide +kernel
theorem d_X_before_116 : decode prog_9_method_50_code 116 = .ok (.if_icmp .ge 7, 3) := by decide +kernel
theorem d_X_before_119 : decode prog_9_method_50_code 119 = .ok (.iconst 1, 1) := by decide +kernel
theorem d_X_before_120 : decode prog_9_method_50_code 120 = .ok (.goto 4, 3) := by decide +kernel
theorem d_X_before_123 : decode prog_9_method_50_code 123 = .ok (.iconst 0, 1) := by decide +kernel
theorem d_X_before_124 : decode prog_9_method_50_code 124 = .ok (.ireturn, 1) := by decide +kernel
def k_X_before_0 (G : oG) (Post : oP) : oK := o_iconst 0 <| o_istore 3 <| o_jmp G m_X_before Post 2 [0, 1, 2, 3]
theorem s_X_before_0 {G : oG} {Post : oP} : oS G m_X_before Post 0 (k_X_before_0 G Post) := by
  unfold k_X_before_0
  refine so_iconst d_X_before_0 rfl ?_
  refine so_istore_n d_X_before_1 rfl (by decide) ?_
  exact so_jmp
def k_X_before_2 (G : oG) (Post : oP) : oK := o_iload 3 <| o_aload 0 <| o_getf 7 8 <| o_iload 1 <| o_iald G <| o_icmpge (o_jmp G m_X_before Post 53 [0, 1, 2, 3]) (o_iload 3 <| o_aload 0 <| o_getf 7 8 <| o_iload 2 <| o_iald G <| o_icmpge (o_jmp G m_X_before Post 53 [0, 1, 2, 3]) (o_aload 0 <| o_getf 7 9 <| o_iconst 8 <| o_iload 1 <| o_imul <| o_iload 3 <| o_iadd <| o_iald G <| o_aload 0 <| o_getf 7 9 <| o_iconst 8 <| o_iload 2 <| o_imul <| o_iload 3 <| o_iadd <| o_iald G <| o_icmpne (o_jmp G m_X_before Post 53 [0, 1, 2, 3]) (o_iinc 3 1 <| o_jmp G m_X_before Post 2 [0, 1, 2, 3])))
theorem s_X_before_2 {G : oG} {Post : oP} : oS G m_X_before Post 2 (k_X_before_2 G Post) := by
  unfold k_X_before_2
  refine so_iload_n d_X_before_2 rfl ?_
  refine so_aload_n d_X_before_3 rfl ?_
  refine so_getf cl_7 (k := 8) (by decide) w_570 d_X_before_4 ?_
  refine so_iload_n d_X_before_7 rfl ?_
  refine so_iald d_X_before_8 ?_
  refine so_icmpge d_X_before_9 (tgt := 53) (by decide) ?_ ?_
  · exact so_jmp
  · refine so_iload_n d_X_before_12 rfl ?_
    refine so_aload_n d_X_before_13 rfl ?_
    refine so_getf cl_7 (k := 8) (by decide) w_570 d_X_before_14 ?_
    refine so_iload_n d_X_before_17 rfl ?_
    refine so_iald d_X_before_18 ?_
    refine so_icmpge d_X_before_19 (tgt := 53) (by decide) ?_ ?_
    · exact so_jmp
    · refine so_aload_n d_X_before_22 rfl ?_
      refine so_getf cl_7 (k := 9) (by decide) w_571 d_X_before_23 ?_
      refine so_bipush d_X_before_26 rfl ?_
      refine so_iload_n d_X_before_28 rfl ?_
      refine so_imul d_X_before_29 ?_
      refine so_iload_n d_X_before_30 rfl ?_
      refine so_iadd d_X_before_31 ?_
      refine so_iald d_X_before_32 ?_
      refine so_aload_n d_X_before_33 rfl ?_
      refine so_getf cl_7 (k := 9) (by decide) w_571 d_X_before_34 ?_
      refine so_bipush d_X_before_37 rfl ?_
      refine so_iload_n d_X_before_39 rfl ?_
      refine so_imul d_X_before_40 ?_
      refine so_iload_n d_X_before_41 rfl ?_
      refine so_iadd d_X_before_42 ?_
      refine so_iald d_X_before_43 ?_
      refine so_icmpne d_X_before_44 (tgt := 53) (by decide) ?_ ?_
      · exact so_jmp
      · refine so_iinc d_X_before_47 rfl (by decide) ?_
        refine so_goto d_X_before_50 (tgt := 2) (by decide) ?_
        exact so_jmp
def k_X_before_53 (G : oG) (Post : oP) : oK := o_iload 3 <| o_aload 0 <| o_getf 7 8 <| o_iload 1 <| o_iald G <| o_icmpeq (o_aload 0 <| o_getf 7 8 <| o_iload 1 <| o_iald G <| o_aload 0 <| o_getf 7 8 <| o_iload 2 <| o_iald G <| o_icmpge (o_iconst 0 <| o_zret Post) (o_iconst 1 <| o_zret Post)) (o_iload 3 <| o_aload 0 <| o_getf 7 8 <| o_iload 2 <| o_iald G <| o_icmpne (o_jmp G m_X_before Post 94 [0, 1, 2, 3]) (o_aload 0 <| o_getf 7 8 <| o_iload 1 <| o_iald G <| o_aload 0 <| o_getf 7 8 <| o_iload 2 <| o_iald G <| o_icmpge (o_iconst 0 <| o_zret Post) (o_iconst 1 <| o_zret Post)))
theorem s_X_before_53 {G : oG} {Post : oP} : oS G m_X_before Post 53 (k_X_before_53 G Post) := by
  unfold k_X_before_53
  refine so_iload_n d_X_before_53 rfl ?_
  refine so_aload_n d_X_before_54 rfl ?_
  refine so_getf cl_7 (k := 8) (by decide) w_570 d_X_before_55 ?_
  refine so_iload_n d_X_before_58 rfl ?_
  refine so_iald d_X_before_59 ?_
  refine so_icmpeq d_X_before_60 (tgt := 73) (by decide) ?_ ?_
  · refine so_aload_n d_X_before_73 rfl ?_
    refine so_getf cl_7 (k := 8) (by decide) w_570 d_X_before_74 ?_
    refine so_iload_n d_X_before_77 rfl ?_
    refine so_iald d_X_before_78 ?_
    refine so_aload_n d_X_before_79 rfl ?_
    refine so_getf cl_7 (k := 8) (by decide) w_570 d_X_before_80 ?_
    refine so_iload_n d_X_before_83 rfl ?_
    refine so_iald d_X_before_84 ?_
    refine so_icmpge d_X_before_85 (tgt := 92) (by decide) ?_ ?_
    · refine so_iconst d_X_before_92 rfl ?_
      exact so_zret d_X_before_93 rfl
    · refine so_iconst d_X_before_88 rfl ?_
      refine so_goto d_X_before_89 (tgt := 93) (by decide) ?_
      exact so_zret d_X_before_93 rfl
  · refine so_iload_n d_X_before_63 rfl ?_
    refine so_aload_n d_X_before_64 rfl ?_
    refine so_getf cl_7 (k := 8) (by decide) w_570 d_X_before_65 ?_
    refine so_iload_n d_X_before_68 rfl ?_
    refine so_iald d_X_before_69 ?_
    refine so_icmpne d_X_before_70 (tgt := 94) (by decide) ?_ ?_
    · exact so_jmp
    · refine so_aload_n d_X_before_73 rfl ?_
      refine so_getf cl_7 (k := 8) (by decide) w_570 d_X_before_74 ?_
      refine so_iload_n d_X_before_77 rfl ?_
      refine so_iald d_X_before_78 ?_
      refine so_aload_n d_X_before_79 rfl ?_
      refine so_getf cl_7 (k := 8) (by decide) w_570 d_X_before_80 ?_
      refine so_iload_n d_X_before_83 rfl ?_
      refine so_iald d_X_before_84 ?_
      refine so_icmpge d_X_before_85 (tgt := 92) (by decide) ?_ ?_
      · refine so_iconst d_X_before_92 rfl ?_
        exact so_zret d_X_before_93 rfl
      · refine so_iconst d_X_before_88 rfl ?_
        refine so_goto d_X_before_89 (tgt := 93) (by decide) ?_
        exact so_zret d_X_before_93 rfl
def k_X_before_94 (G : oG) (Post : oP) : oK := o_aload 0 <| o_getf 7 9 <| o_iconst 8 <| o_iload 1 <| o_imul <| o_iload 3 <| o_iadd <| o_iald G <| o_aload 0 <| o_getf 7 9 <| o_iconst 8 <| o_iload 2 <| o_imul <| o_iload 3 <| o_iadd <| o_iald G <| o_icmpge (o_iconst 0 <| o_zret Post) (o_iconst 1 <| o_zret Post)
theorem s_X_before_94 {G : oG} {Post : oP} : oS G m_X_before Post 94 (k_X_before_94 G Post) := by
  unfold k_X_before_94
  refine so_aload_n d_X_before_94 rfl ?_
  refine so_getf cl_7 (k := 9) (by decide) w_571 d_X_before_95 ?_
  refine so_bipush d_X_before_98 rfl ?_
  refine so_iload_n d_X_before_100 rfl ?_
  refine so_imul d_X_before_101 ?_
  refine so_iload_n d_X_before_102 rfl ?_
  refine so_iadd d_X_before_103 ?_
  refine so_iald d_X_before_104 ?_
  refine so_aload_n d_X_before_105 rfl ?_
  refine so_getf cl_7 (k := 9) (by decide) w_571 d_X_before_106 ?_
  refine so_bipush d_X_before_109 rfl ?_
  refine so_iload_n d_X_before_111 rfl ?_
  refine so_imul d_X_before_112 ?_
  refine so_iload_n d_X_before_113 rfl ?_
  refine so_iadd d_X_before_114 ?_
  refine so_iald d_X_before_115 ?_
  refine so_icmpge d_X_before_116 (tgt := 123) (by decide) ?_ ?_
  · refine so_iconst d_X_before_123 rfl ?_
    exact so_zret d_X_before_124 rfl
  · refine so_iconst d_X_before_119 rfl ?_
    refine so_goto d_X_before_120 (tgt := 124) (by decide) ?_
    exact so_zret d_X_before_124 rfl
theorem d_X_list_0 : decode prog_9_method_51_code 0 = .ok (.iconst (-1), 1) := by decide +kernel
theorem d_X_list_1 : decode prog_9_method_51_code 1 = .ok (.istore_n 1, 1) := by decide +kernel
theorem d_X_list_2 : decode prog_9_method_51_code 2 = .ok (.iconst 0, 1) := by decide +kernel
theorem d_X_list_3 : decode prog_9_method_51_code 3 = .ok (.istore_n 2, 1) := by decide +kernel
theorem d_X_list_4 : decode prog_9_method_51_code 4 = .ok (.iload_n 2, 1) := by decide +kernel
theorem d_X_list_5 : decode prog_9_method_51_code 5 = .ok (.bipush 8, 2) := by decide +kernel
theorem d_X_list_7 : decode prog_9_method_51_code 7 = .ok (.if_icmp .ge 78, 3) := by decide +kernel
theorem d_X_list_10 : decode prog_9_method_51_code 10 = .ok (.iconst 0, 1) := by decide +kernel
theorem d_X_list_11 : decode prog_9_method_51_code 11 = .ok (.istore_n 3, 1) := by decide +kernel
theorem d_X_list_12 : decode prog_9_method_51_code 12 = .ok (.iconst 0, 1) := by decide +kernel
theorem d_X_list_13 : decode prog_9_method_51_code 13 = .ok (.istore 4, 2) := by decide +kernel
theorem d_X_list_15 : decode prog_9_method_51_code 15 = .ok (.iload 4, 2) := by decide +kernel
theorem d_X_list_17 : decode prog_9_method_51_code 17 = .ok (.bipush 8, 2) := by decide +kernel
theorem d_X_list_19 : decode prog_9_method_51_code 19 = .ok (.if_icmp .ge 37, 3) := by decide +kernel
theorem d_X_list_22 : decode prog_9_method_51_code 22 = .ok (.iload_n 3, 1) := by decide +kernel
theorem d_X_list_23 : decode prog_9_method_51_code 23 = .ok (.aload_n 0, 1) := by decide +kernel
theorem d_X_list_24 : decode prog_9_method_51_code 24 = .ok (.getfield 32, 3) := by decide +kernel
theorem d_X_list_27 : decode prog_9_method_51_code 27 = .ok (.iload 4, 2) := by decide +kernel
theorem d_X_list_29 : decode prog_9_method_51_code 29 = .ok (.iaload, 1) := by decide +kernel
theorem d_X_list_30 : decode prog_9_method_51_code 30 = .ok (.ifCond .le 17, 3) := by decide +kernel
theorem d_X_list_33 : decode prog_9_method_51_code 33 = .ok (.aload_n 0, 1) := by decide +kernel
theorem d_X_list_34 : decode prog_9_method_51_code 34 = .ok (.iload 4, 2) := by decide +kernel
theorem d_X_list_36 : decode prog_9_method_51_code 36 = .ok (.iload_n 2, 1) := by decide +kernel
theorem d_X_list_37 : decode prog_9_method_51_code 37 = .ok (.invokevirtual 230, 3) := by decide +kernel
theorem d_X_list_40 : decode prog_9_method_51_code 40 = .ok (.ifCond .eq 7, 3) := by decide +kernel
theorem d_X_list_43 : decode prog_9_method_51_code 43 = .ok (.iconst 1, 1) := by decide +kernel
theorem d_X_list_44 : decode prog_9_method_51_code 44 = .ok (.goto 4, 3) := by decide +kernel
theorem d_X_list_47 : decode prog_9_method_51_code 47 = .ok (.iconst 0, 1) := by decide +kernel
theorem d_X_list_48 : decode prog_9_method_51_code 48 = .ok (.iadd, 1) := by decide +kernel
theorem d_X_list_49 : decode prog_9_method_51_code 49 = .ok (.istore_n 3, 1) := by decide +kernel
theorem d_X_list_50 : decode prog_9_method_51_code 50 = .ok (.iinc 4 1, 3) := by decide +kernel
theorem d_X_list_53 : decode prog_9_method_51_code 53 = .ok (.goto (-38), 3) := by decide +kernel
theorem d_X_list_56 : decode prog_9_method_51_code 56 = .ok (.aload_n 0, 1) := by decide +kernel
theorem d_X_list_57 : decode prog_9_method_51_code 57 = .ok (.getfield 32, 3) := by decide +kernel
theorem d_X_list_60 : decode prog_9_method_51_code 60 = .ok (.iload_n 2, 1) := by decide +kernel
theorem d_X_list_61 : decode prog_9_method_51_code 61 = .ok (.iaload, 1) := by decide +kernel
theorem d_X_list_62 : decode prog_9_method_51_code 62 = .ok (.ifCond .le 15, 3) := by decide +kernel
theorem d_X_list_65 : decode prog_9_method_51_code 65 = .ok (.iload_n 3, 1) := by decide +kernel
theorem d_X_list_66 : decode prog_9_method_51_code 66 = .ok (.aload_n 0, 1) := by decide +kernel
theorem d_X_list_67 : decode prog_9_method_51_code 67 = .ok (.getfield 96, 3) := by decide +kernel
theorem d_X_list_70 : decode prog_9_method_51_code 70 = .ok (.if_icmp .ne 7, 3) := by decide +kernel
theorem d_X_list_73 : decode prog_9_method_51_code 73 = .ok (.iload_n 2, 1) := by decide +kernel
theorem d_X_list_74 : decode prog_9_method_51_code 74 = .ok (.goto 4, 3) := by decide +kernel
theorem d_X_list_77 : decode prog_9_method_51_code 77 = .ok (.iload_n 1, 1) := by decide +kernel
theorem d_X_list_78 : decode prog_9_method_51_code 78 = .ok (.istore_n 1, 1) := by decide +kernel
theorem d_X_list_79 : decode prog_9_method_51_code 79 = .ok (.iinc 2 1, 3) := by decide +kernel
theorem d_X_list_82 : decode prog_9_method_51_code 82 = .ok (.goto (-78), 3) := by decide +kernel
theorem d_X_list_85 : decode prog_9_method_51_code 85 = .ok (.iload_n 1, 1) := by decide +kernel
theorem d_X_list_86 : decode prog_9_method_51_code 86 = .ok (.ifCond .ge 6, 3) := by decide +kernel
theorem d_X_list_89 : decode prog_9_method_51_code 89 = .ok (.bipush (-2), 2) := by decide +kernel
theorem d_X_list_91 : decode prog_9_method_51_code 91 = .ok (.ireturn, 1) := by decide +kernel
theorem d_X_list_92 : decode prog_9_method_51_code 92 = .ok (.aload_n 0, 1) := by decide +kernel
theorem d_X_list_93 : decode prog_9_method_51_code 93 = .ok (.iconst 0, 1) := by decide +kernel
theorem d_X_list_94 : decode prog_9_method_51_code 94 = .ok (.putfield 162, 3) := by decide +kernel
theorem d_X_list_97 : decode prog_9_method_51_code 97 = .ok (.aload_n 0, 1) := by decide +kernel
theorem d_X_list_98 : decode prog_9_method_51_code 98 = .ok (.aload_n 0, 1) := by decide +kernel
theorem d_X_list_99 : decode prog_9_method_51_code 99 = .ok (.getfield 99, 3) := by decide +kernel
theorem d_X_list_102 : decode prog_9_method_51_code 102 = .ok (.aload_n 0, 1) := by decide +kernel
theorem d_X_list_103 : decode prog_9_method_51_code 103 = .ok (.getfield 32, 3) := by decide +kernel
theorem d_X_list_106 : decode prog_9_method_51_code 106 = .ok (.iload_n 1, 1) := by decide +kernel
theorem d_X_list_107 : decode prog_9_method_51_code 107 = .ok (.iaload, 1) := by decide +kernel
theorem d_X_list_108 : decode prog_9_method_51_code 108 = .ok (.iconst 1, 1) := by decide +kernel
theorem d_X_list_109 : decode prog_9_method_51_code 109 = .ok (.iadd, 1) := by decide +kernel
theorem d_X_list_110 : decode prog_9_method_51_code 110 = .ok (.iconst 2, 1) := by decide +kernel
theorem d_X_list_111 : decode prog_9_method_51_code 111 = .ok (.invokevirtual 203, 3) := by decide +kernel
theorem d_X_list_114 : decode prog_9_method_51_code 114 = .ok (.ifCond .ne 6, 3) := by decide +kernel
theorem d_X_list_117 : decode prog_9_method_51_code 117 = .ok (.bipush (-14), 2) := by decide +kernel
theorem d_X_list_119 : decode prog_9_method_51_code 119 = .ok (.ireturn, 1) := by decide +kernel
theorem d_X_list_120 : decode prog_9_method_51_code 120 = .ok (.iconst 0, 1) := by decide +kernel
theorem d_X_list_121 : decode prog_9_method_51_code 121 = .ok (.istore_n 2, 1) := by decide +kernel
theorem d_X_list_122 : decode prog_9_method_51_code 122 = .ok (.iload_n 2, 1) := by decide +kernel
theorem d_X_list_123 : decode prog_9_method_51_code 123 = .ok (.aload_n 0, 1) := by decide +kernel
theorem d_X_list_124 : decode prog_9_method_51_code 124 = .ok (.getfield 32, 3) := by decide +kernel
theorem d_X_list_127 : decode prog_9_method_51_code 127 = .ok (.iload_n 1, 1) := by decide +kernel
theorem d_X_list_128 : decode prog_9_method_51_code 128 = .ok (.iaload, 1) := by decide +kernel
theorem d_X_list_129 : decode prog_9_method_51_code 129 = .ok (.if_icmp .gt 45, 3) := by decide +kernel
theorem d_X_list_132 : decode prog_9_method_51_code 132 = .ok (.aload_n 0, 1) := by decide +kernel
theorem d_X_list_133 : decode prog_9_method_51_code 133 = .ok (.getfield 7, 3) := by decide +kernel
theorem d_X_list_136 : decode prog_9_method_51_code 136 = .ok (.aload_n 0, 1) := by decide +kernel
theorem d_X_list_137 : decode prog_9_method_51_code 137 = .ok (.getfield 65, 3) := by decide +kernel
theorem d_X_list_140 : decode prog_9_method_51_code 140 = .ok (.iload_n 2, 1) := by decide +kernel
theorem d_X_list_141 : decode prog_9_method_51_code 141 = .ok (.iaload, 1) := by decide +kernel
theorem d_X_list_142 : decode prog_9_method_51_code 142 = .ok (.iload_n 2, 1) := by decide +kernel
theorem d_X_list_143 : decode prog_9_method_51_code 143 = .ok (.aload_n 0, 1) := by decide +kernel
theorem d_X_list_144 : decode prog_9_method_51_code 144 = .ok (.getfield 32, 3) := by decide +kernel
theorem d_X_list_147 : decode prog_9_method_51_code 147 = .ok (.iload_n 1, 1) := by decide +kernel
theorem d_X_list_148 : decode prog_9_method_51_code 148 = .ok (.iaload, 1) := by decide +kernel
theorem d_X_list_149 : decode prog_9_method_51_code 149 = .ok (.if_icmp .ge 17, 3) := by decide +kernel
theorem d_X_list_152 : decode prog_9_method_51_code 152 = .ok (.aload_n 0, 1) := by decide +kernel
theorem d_X_list_153 : decode prog_9_method_51_code 153 = .ok (.getfield 35, 3) := by decide +kernel
theorem d_X_list_156 : decode prog_9_method_51_code 156 = .ok (.bipush 8, 2) := by decide +kernel
theorem d_X_list_158 : decode prog_9_method_51_code 158 = .ok (.iload_n 1, 1) := by decide +kernel
theorem d_X_list_159 : decode prog_9_method_51_code 159 = .ok (.imul, 1) := by decide +kernel
theorem d_X_list_160 : decode prog_9_method_51_code 160 = .ok (.iload_n 2, 1) := by decide +kernel
theorem d_X_list_161 : decode prog_9_method_51_code 161 = .ok (.iadd, 1) := by decide +kernel
theorem d_X_list_162 : decode prog_9_method_51_code 162 = .ok (.iaload, 1) := by decide +kernel
theorem d_X_list_163 : decode prog_9_method_51_code 163 = .ok (.goto 4, 3) := by decide +kernel
theorem d_X_list_166 : decode prog_9_method_51_code 166 = .ok (.iconst 0, 1) := by decide +kernel
theorem d_X_list_167 : decode prog_9_method_51_code 167 = .ok (.iastore, 1) := by decide +kernel
theorem d_X_list_168 : decode prog_9_method_51_code 168 = .ok (.iinc 2 1, 3) := by decide +kernel
theorem d_X_list_171 : decode prog_9_method_51_code 171 = .ok (.goto (-49), 3) := by decide +kernel
theorem d_X_list_174 : decode prog_9_method_51_code 174 = .ok (.aload_n 0, 1) := by decide +kernel
theorem d_X_list_175 : decode prog_9_method_51_code 175 = .ok (.getfield 32, 3) := by decide +kernel
theorem d_X_list_178 : decode prog_9_method_51_code 178 = .ok (.iload_n 1, 1) := by decide +kernel
theorem d_X_list_179 : decode prog_9_method_51_code 179 = .ok (.iaload, 1) := by decide +kernel
theorem d_X_list_180 : decode prog_9_method_51_code 180 = .ok (.ireturn, 1) := by decide +kernel
def k_X_list_0 (G : oG) (Post : oP) : oK := o_iconst (-1) <| o_istore 1 <| o_iconst 0 <| o_istore 2 <| o_jmp G m_X_list Post 4 [0, 1, 2]
theorem s_X_list_0 {G : oG} {Post : oP} : oS G m_X_list Post 0 (k_X_list_0 G Post) := by
  unfold k_X_list_0
  refine so_iconst d_X_list_0 rfl ?_
  refine so_istore_n d_X_list_1 rfl (by decide) ?_
  refine so_iconst d_X_list_2 rfl ?_
  refine so_istore_n d_X_list_3 rfl (by decide) ?_
  exact so_jmp
def k_X_list_4 (G : oG) (Post : oP) : oK := o_iload 2 <| o_iconst 8 <| o_icmpge (o_jmp G m_X_list Post 85 [0, 1]) (o_iconst 0 <| o_istore 3 <| o_iconst 0 <| o_istore 4 <| o_jmp G m_X_list Post 15 [0, 1, 2, 3, 4])
theorem s_X_list_4 {G : oG} {Post : oP} : oS G m_X_list Post 4 (k_X_list_4 G Post) := by
  unfold k_X_list_4
  refine so_iload_n d_X_list_4 rfl ?_
  refine so_bipush d_X_list_5 rfl ?_
  refine so_icmpge d_X_list_7 (tgt := 85) (by decide) ?_ ?_
  · exact so_jmp
  · refine so_iconst d_X_list_10 rfl ?_
    refine so_istore_n d_X_list_11 rfl (by decide) ?_
    refine so_iconst d_X_list_12 rfl ?_
    refine so_istore d_X_list_13 (by decide) ?_
    exact so_jmp
def k_X_list_15 (G : oG) (Post : oP) : oK := o_iload 4 <| o_iconst 8 <| o_icmpge (o_jmp G m_X_list Post 56 [0, 1, 2, 3]) (o_iload 3 <| o_aload 0 <| o_getf 7 8 <| o_iload 4 <| o_iald G <| o_ifle (o_iconst 0 <| o_iadd <| o_istore 3 <| o_iinc 4 1 <| o_jmp G m_X_list Post 15 [0, 1, 2, 3, 4]) (o_aload 0 <| o_iload 4 <| o_iload 2 <| o_callV G 7 m_X_before 2 <| o_jmp G m_X_list Post 40 [0, 1, 2, 4]))
theorem s_X_list_15 {G : oG} {Post : oP} : oS G m_X_list Post 15 (k_X_list_15 G Post) := by
  unfold k_X_list_15
  refine so_iload d_X_list_15 ?_
  refine so_bipush d_X_list_17 rfl ?_
  refine so_icmpge d_X_list_19 (tgt := 56) (by decide) ?_ ?_
  · exact so_jmp
  · refine so_iload_n d_X_list_22 rfl ?_
    refine so_aload_n d_X_list_23 rfl ?_
    refine so_getf cl_7 (k := 8) (by decide) w_570 d_X_list_24 ?_
    refine so_iload d_X_list_27 ?_
    refine so_iald d_X_list_29 ?_
    refine so_ifle d_X_list_30 (tgt := 47) (by decide) ?_ ?_
    · refine so_iconst d_X_list_47 rfl ?_
      refine so_iadd d_X_list_48 ?_
      refine so_istore_n d_X_list_49 rfl (by decide) ?_
      refine so_iinc d_X_list_50 rfl (by decide) ?_
      refine so_goto d_X_list_53 (tgt := 15) (by decide) ?_
      exact so_jmp
    · refine so_aload_n d_X_list_33 rfl ?_
      refine so_iload d_X_list_34 ?_
      refine so_iload_n d_X_list_36 rfl ?_
      refine so_callV cl_7 f_X_before w_835 w_63 w_833 (by decide) (by decide) d_X_list_37 ?_
      exact so_jmp
def k_X_list_40 (G : oG) (Post : oP) : oK := o_ifeq (o_iconst 0 <| o_iadd <| o_istore 3 <| o_iinc 4 1 <| o_jmp G m_X_list Post 15 [0, 1, 2, 3, 4]) (o_iconst 1 <| o_iadd <| o_istore 3 <| o_iinc 4 1 <| o_jmp G m_X_list Post 15 [0, 1, 2, 3, 4])
theorem s_X_list_40 {G : oG} {Post : oP} : oS G m_X_list Post 40 (k_X_list_40 G Post) := by
  unfold k_X_list_40
  refine so_ifeq d_X_list_40 (tgt := 47) (by decide) ?_ ?_
  · refine so_iconst d_X_list_47 rfl ?_
    refine so_iadd d_X_list_48 ?_
    refine so_istore_n d_X_list_49 rfl (by decide) ?_
    refine so_iinc d_X_list_50 rfl (by decide) ?_
    refine so_goto d_X_list_53 (tgt := 15) (by decide) ?_
    exact so_jmp
  · refine so_iconst d_X_list_43 rfl ?_
    refine so_goto d_X_list_44 (tgt := 48) (by decide) ?_
    refine so_iadd d_X_list_48 ?_
    refine so_istore_n d_X_list_49 rfl (by decide) ?_
    refine so_iinc d_X_list_50 rfl (by decide) ?_
    refine so_goto d_X_list_53 (tgt := 15) (by decide) ?_
    exact so_jmp
def k_X_list_56 (G : oG) (Post : oP) : oK := o_aload 0 <| o_getf 7 8 <| o_iload 2 <| o_iald G <| o_ifle (o_iload 1 <| o_istore 1 <| o_iinc 2 1 <| o_jmp G m_X_list Post 4 [0, 1, 2]) (o_iload 3 <| o_aload 0 <| o_getf 7 20 <| o_icmpne (o_iload 1 <| o_istore 1 <| o_iinc 2 1 <| o_jmp G m_X_list Post 4 [0, 1, 2]) (o_iload 2 <| o_istore 1 <| o_iinc 2 1 <| o_jmp G m_X_list Post 4 [0, 1, 2]))
theorem s_X_list_56 {G : oG} {Post : oP} : oS G m_X_list Post 56 (k_X_list_56 G Post) := by
  unfold k_X_list_56
  refine so_aload_n d_X_list_56 rfl ?_
  refine so_getf cl_7 (k := 8) (by decide) w_570 d_X_list_57 ?_
  refine so_iload_n d_X_list_60 rfl ?_
  refine so_iald d_X_list_61 ?_
  refine so_ifle d_X_list_62 (tgt := 77) (by decide) ?_ ?_
  · refine so_iload_n d_X_list_77 rfl ?_
    refine so_istore_n d_X_list_78 rfl (by decide) ?_
    refine so_iinc d_X_list_79 rfl (by decide) ?_
    refine so_goto d_X_list_82 (tgt := 4) (by decide) ?_
    exact so_jmp
  · refine so_iload_n d_X_list_65 rfl ?_
    refine so_aload_n d_X_list_66 rfl ?_
    refine so_getf cl_7 (k := 20) (by decide) w_582 d_X_list_67 ?_
    refine so_icmpne d_X_list_70 (tgt := 77) (by decide) ?_ ?_
    · refine so_iload_n d_X_list_77 rfl ?_
      refine so_istore_n d_X_list_78 rfl (by decide) ?_
      refine so_iinc d_X_list_79 rfl (by decide) ?_
      refine so_goto d_X_list_82 (tgt := 4) (by decide) ?_
      exact so_jmp
    · refine so_iload_n d_X_list_73 rfl ?_
      refine so_goto d_X_list_74 (tgt := 78) (by decide) ?_
      refine so_istore_n d_X_list_78 rfl (by decide) ?_
      refine so_iinc d_X_list_79 rfl (by decide) ?_
      refine so_goto d_X_list_82 (tgt := 4) (by decide) ?_
      exact so_jmp
def k_X_list_85 (G : oG) (Post : oP) : oK := o_iload 1 <| o_ifge (o_aload 0 <| o_iconst 0 <| o_putfI 7 23 <| o_aload 0 <| o_aload 0 <| o_getf 7 21 <| o_aload 0 <| o_getf 7 8 <| o_iload 1 <| o_iald G <| o_iconst 1 <| o_iadd <| o_iconst 2 <| o_callV G 7 m_X_range 3 <| o_jmp G m_X_list Post 114 [0, 1]) (o_iconst (-2) <| o_iret Post)
theorem s_X_list_85 {G : oG} {Post : oP} : oS G m_X_list Post 85 (k_X_list_85 G Post) := by
  unfold k_X_list_85
  refine so_iload_n d_X_list_85 rfl ?_
  refine so_ifge d_X_list_86 (tgt := 92) (by decide) ?_ ?_
  · refine so_aload_n d_X_list_92 rfl ?_
    refine so_iconst d_X_list_93 rfl ?_
    refine so_putfI cl_7 (k := 23) (by decide) rfl rfl w_585 d_X_list_94 ?_
    refine so_aload_n d_X_list_97 rfl ?_
    refine so_aload_n d_X_list_98 rfl ?_
    refine so_getf cl_7 (k := 21) (by decide) w_583 d_X_list_99 ?_
    refine so_aload_n d_X_list_102 rfl ?_
    refine so_getf cl_7 (k := 8) (by decide) w_570 d_X_list_103 ?_
    refine so_iload_n d_X_list_106 rfl ?_
    refine so_iald d_X_list_107 ?_
    refine so_iconst d_X_list_108 rfl ?_
    refine so_iadd d_X_list_109 ?_
    refine so_iconst d_X_list_110 rfl ?_
    refine so_callV cl_7 f_X_range w_759 w_46 w_757 (by decide) (by decide) d_X_list_111 ?_
    exact so_jmp
  · refine so_bipush d_X_list_89 rfl ?_
    exact so_iret d_X_list_91 rfl
def k_X_list_114 (G : oG) (Post : oP) : oK := o_ifne (o_iconst 0 <| o_istore 2 <| o_jmp G m_X_list Post 122 [0, 1, 2]) (o_iconst (-14) <| o_iret Post)
theorem s_X_list_114 {G : oG} {Post : oP} : oS G m_X_list Post 114 (k_X_list_114 G Post) := by
  unfold k_X_list_114
  refine so_ifne d_X_list_114 (tgt := 120) (by decide) ?_ ?_
  · refine so_iconst d_X_list_120 rfl ?_
    refine so_istore_n d_X_list_121 rfl (by decide) ?_
    exact so_jmp
  · refine so_bipush d_X_list_117 rfl ?_
    exact so_iret d_X_list_119 rfl
def k_X_list_122 (G : oG) (Post : oP) : oK := o_iload 2 <| o_aload 0 <| o_getf 7 8 <| o_iload 1 <| o_iald G <| o_icmpgt (o_aload 0 <| o_getf 7 8 <| o_iload 1 <| o_iald G <| o_iret Post) (o_aload 0 <| o_getf 7 0 <| o_aload 0 <| o_getf 7 24 <| o_iload 2 <| o_iald G <| o_iload 2 <| o_aload 0 <| o_getf 7 8 <| o_iload 1 <| o_iald G <| o_icmpge (o_iconst 0 <| o_iast <| o_iinc 2 1 <| o_jmp G m_X_list Post 122 [0, 1, 2]) (o_aload 0 <| o_getf 7 9 <| o_iconst 8 <| o_iload 1 <| o_imul <| o_iload 2 <| o_iadd <| o_iald G <| o_iast <| o_iinc 2 1 <| o_jmp G m_X_list Post 122 [0, 1, 2]))
theorem s_X_list_122 {G : oG} {Post : oP} : oS G m_X_list Post 122 (k_X_list_122 G Post) := by
  unfold k_X_list_122
  refine so_iload_n d_X_list_122 rfl ?_
  refine so_aload_n d_X_list_123 rfl ?_
  refine so_getf cl_7 (k := 8) (by decide) w_570 d_X_list_124 ?_
  refine so_iload_n d_X_list_127 rfl ?_
  refine so_iald d_X_list_128 ?_
  refine so_icmpgt d_X_list_129 (tgt := 174) (by decide) ?_ ?_
  · refine so_aload_n d_X_list_174 rfl ?_
    refine so_getf cl_7 (k := 8) (by decide) w_570 d_X_list_175 ?_
    refine so_iload_n d_X_list_178 rfl ?_
    refine so_iald d_X_list_179 ?_
    exact so_iret d_X_list_180 rfl
  · refine so_aload_n d_X_list_132 rfl ?_
    refine so_getf cl_7 (k := 0) (by decide) w_562 d_X_list_133 ?_
    refine so_aload_n d_X_list_136 rfl ?_
    refine so_getf cl_7 (k := 24) (by decide) w_586 d_X_list_137 ?_
    refine so_iload_n d_X_list_140 rfl ?_
    refine so_iald d_X_list_141 ?_
    refine so_iload_n d_X_list_142 rfl ?_
    refine so_aload_n d_X_list_143 rfl ?_
    refine so_getf cl_7 (k := 8) (by decide) w_570 d_X_list_144 ?_
    refine so_iload_n d_X_list_147 rfl ?_
    refine so_iald d_X_list_148 ?_
    refine so_icmpge d_X_list_149 (tgt := 166) (by decide) ?_ ?_
    · refine so_iconst d_X_list_166 rfl ?_
      refine so_iast d_X_list_167 ?_
      refine so_iinc d_X_list_168 rfl (by decide) ?_
      refine so_goto d_X_list_171 (tgt := 122) (by decide) ?_
      exact so_jmp
    · refine so_aload_n d_X_list_152 rfl ?_
      refine so_getf cl_7 (k := 9) (by decide) w_571 d_X_list_153 ?_
      refine so_bipush d_X_list_156 rfl ?_
      refine so_iload_n d_X_list_158 rfl ?_
      refine so_imul d_X_list_159 ?_
      refine so_iload_n d_X_list_160 rfl ?_
      refine so_iadd d_X_list_161 ?_
      refine so_iald d_X_list_162 ?_
      refine so_goto d_X_list_163 (tgt := 167) (by decide) ?_
      refine so_iast d_X_list_167 ?_
      refine so_iinc d_X_list_168 rfl (by decide) ?_
      refine so_goto d_X_list_171 (tgt := 122) (by decide) ?_
      exact so_jmp
theorem d_X_copy_0 : decode prog_9_method_53_code 0 = .ok (.aload_n 0, 1) := by decide +kernel
theorem d_X_copy_1 : decode prog_9_method_53_code 1 = .ok (.getfield 102, 3) := by decide +kernel
theorem d_X_copy_4 : decode prog_9_method_53_code 4 = .ok (.ifCond .lt 12, 3) := by decide +kernel
theorem d_X_copy_7 : decode prog_9_method_53_code 7 = .ok (.aload_n 0, 1) := by decide +kernel
theorem d_X_copy_8 : decode prog_9_method_53_code 8 = .ok (.getfield 102, 3) := by decide +kernel
theorem d_X_copy_11 : decode prog_9_method_53_code 11 = .ok (.bipush 64, 2) := by decide +kernel
theorem d_X_copy_13 : decode prog_9_method_53_code 13 = .ok (.if_icmp .le 6, 3) := by decide +kernel
theorem d_X_copy_16 : decode prog_9_method_53_code 16 = .ok (.bipush (-22), 2) := by decide +kernel
theorem d_X_copy_18 : decode prog_9_method_53_code 18 = .ok (.ireturn, 1) := by decide +kernel
theorem d_X_copy_19 : decode prog_9_method_53_code 19 = .ok (.aload_n 0, 1) := by decide +kernel
theorem d_X_copy_20 : decode prog_9_method_53_code 20 = .ok (.iconst 0, 1) := by decide +kernel
theorem d_X_copy_21 : decode prog_9_method_53_code 21 = .ok (.putfield 162, 3) := by decide +kernel
theorem d_X_copy_24 : decode prog_9_method_53_code 24 = .ok (.aload_n 0, 1) := by decide +kernel
theorem d_X_copy_25 : decode prog_9_method_53_code 25 = .ok (.aload_n 0, 1) := by decide +kernel
theorem d_X_copy_26 : decode prog_9_method_53_code 26 = .ok (.getfield 99, 3) := by decide +kernel
theorem d_X_copy_29 : decode prog_9_method_53_code 29 = .ok (.aload_n 0, 1) := by decide +kernel
theorem d_X_copy_30 : decode prog_9_method_53_code 30 = .ok (.getfield 102, 3) := by decide +kernel
theorem d_X_copy_33 : decode prog_9_method_53_code 33 = .ok (.iconst 1, 1) := by decide +kernel
theorem d_X_copy_34 : decode prog_9_method_53_code 34 = .ok (.invokevirtual 203, 3) := by decide +kernel
theorem d_X_copy_37 : decode prog_9_method_53_code 37 = .ok (.istore_n 1, 1) := by decide +kernel
theorem d_X_copy_38 : decode prog_9_method_53_code 38 = .ok (.aload_n 0, 1) := by decide +kernel
theorem d_X_copy_39 : decode prog_9_method_53_code 39 = .ok (.invokevirtual 207, 3) := by decide +kernel
theorem d_X_copy_42 : decode prog_9_method_53_code 42 = .ok (.aload_n 0, 1) := by decide +kernel
theorem d_X_copy_43 : decode prog_9_method_53_code 43 = .ok (.iconst 0, 1) := by decide +kernel
theorem d_X_copy_44 : decode prog_9_method_53_code 44 = .ok (.putfield 162, 3) := by decide +kernel
theorem d_X_copy_47 : decode prog_9_method_53_code 47 = .ok (.iload_n 1, 1) := by decide +kernel
theorem d_X_copy_48 : decode prog_9_method_53_code 48 = .ok (.ifCond .eq 19, 3) := by decide +kernel
theorem d_X_copy_51 : decode prog_9_method_53_code 51 = .ok (.aload_n 0, 1) := by decide +kernel
theorem d_X_copy_52 : decode prog_9_method_53_code 52 = .ok (.aload_n 0, 1) := by decide +kernel
theorem d_X_copy_53 : decode prog_9_method_53_code 53 = .ok (.getfield 96, 3) := by decide +kernel
theorem d_X_copy_56 : decode prog_9_method_53_code 56 = .ok (.aload_n 0, 1) := by decide +kernel
theorem d_X_copy_57 : decode prog_9_method_53_code 57 = .ok (.getfield 102, 3) := by decide +kernel
theorem d_X_copy_60 : decode prog_9_method_53_code 60 = .ok (.iconst 2, 1) := by decide +kernel
theorem d_X_copy_61 : decode prog_9_method_53_code 61 = .ok (.invokevirtual 203, 3) := by decide +kernel
theorem d_X_copy_64 : decode prog_9_method_53_code 64 = .ok (.ifCond .ne 6, 3) := by decide +kernel
theorem d_X_copy_67 : decode prog_9_method_53_code 67 = .ok (.bipush (-14), 2) := by decide +kernel
theorem d_X_copy_69 : decode prog_9_method_53_code 69 = .ok (.ireturn, 1) := by decide +kernel
theorem d_X_copy_70 : decode prog_9_method_53_code 70 = .ok (.iconst 0, 1) := by decide +kernel
theorem d_X_copy_71 : decode prog_9_method_53_code 71 = .ok (.istore_n 2, 1) := by decide +kernel
theorem d_X_copy_72 : decode prog_9_method_53_code 72 = .ok (.iload_n 2, 1) := by decide +kernel
theorem d_X_copy_73 : decode prog_9_method_53_code 73 = .ok (.aload_n 0, 1) := by decide +kernel
theorem d_X_copy_74 : decode prog_9_method_53_code 74 = .ok (.getfield 102, 3) := by decide +kernel
theorem d_X_copy_77 : decode prog_9_method_53_code 77 = .ok (.if_icmp .ge 26, 3) := by decide +kernel
theorem d_X_copy_80 : decode prog_9_method_53_code 80 = .ok (.aload_n 0, 1) := by decide +kernel
theorem d_X_copy_81 : decode prog_9_method_53_code 81 = .ok (.getfield 7, 3) := by decide +kernel
theorem d_X_copy_84 : decode prog_9_method_53_code 84 = .ok (.aload_n 0, 1) := by decide +kernel
theorem d_X_copy_85 : decode prog_9_method_53_code 85 = .ok (.getfield 65, 3) := by decide +kernel
theorem d_X_copy_88 : decode prog_9_method_53_code 88 = .ok (.iload_n 2, 1) := by decide +kernel
theorem d_X_copy_89 : decode prog_9_method_53_code 89 = .ok (.iaload, 1) := by decide +kernel
theorem d_X_copy_90 : decode prog_9_method_53_code 90 = .ok (.aload_n 0, 1) := by decide +kernel
theorem d_X_copy_91 : decode prog_9_method_53_code 91 = .ok (.getfield 68, 3) := by decide +kernel
theorem d_X_copy_94 : decode prog_9_method_53_code 94 = .ok (.iload_n 2, 1) := by decide +kernel
theorem d_X_copy_95 : decode prog_9_method_53_code 95 = .ok (.iaload, 1) := by decide +kernel
theorem d_X_copy_96 : decode prog_9_method_53_code 96 = .ok (.iastore, 1) := by decide +kernel
theorem d_X_copy_97 : decode prog_9_method_53_code 97 = .ok (.iinc 2 1, 3) := by decide +kernel
theorem d_X_copy_100 : decode prog_9_method_53_code 100 = .ok (.goto (-28), 3) := by decide +kernel
theorem d_X_copy_103 : decode prog_9_method_53_code 103 = .ok (.aload_n 0, 1) := by decide +kernel
theorem d_X_copy_104 : decode prog_9_method_53_code 104 = .ok (.getfield 102, 3) := by decide +kernel
theorem d_X_copy_107 : decode prog_9_method_53_code 107 = .ok (.ireturn, 1) := by decide +kernel
def k_X_copy_0 (G : oG) (Post : oP) : oK := o_aload 0 <| o_getf 7 22 <| o_iflt (o_iconst (-22) <| o_iret Post) (o_aload 0 <| o_getf 7 22 <| o_iconst 64 <| o_icmple (o_aload 0 <| o_iconst 0 <| o_putfI 7 23 <| o_aload 0 <| o_aload 0 <| o_getf 7 21 <| o_aload 0 <| o_getf 7 22 <| o_iconst 1 <| o_callV G 7 m_X_range 3 <| o_jmp G m_X_copy Post 37 [0]) (o_iconst (-22) <| o_iret Post))
theorem s_X_copy_0 {G : oG} {Post : oP} : oS G m_X_copy Post 0 (k_X_copy_0 G Post) := by
  unfold k_X_copy_0
  refine so_aload_n d_X_copy_0 rfl ?_
  refine so_getf cl_7 (k := 22) (by decide) w_584 d_X_copy_1 ?_
  refine so_iflt d_X_copy_4 (tgt := 16) (by decide) ?_ ?_
  · refine so_bipush d_X_copy_16 rfl ?_
    exact so_iret d_X_copy_18 rfl
  · refine so_aload_n d_X_copy_7 rfl ?_
    refine so_getf cl_7 (k := 22) (by decide) w_584 d_X_copy_8 ?_
    refine so_bipush d_X_copy_11 rfl ?_
    refine so_icmple d_X_copy_13 (tgt := 19) (by decide) ?_ ?_
    · refine so_aload_n d_X_copy_19 rfl ?_
      refine so_iconst d_X_copy_20 rfl ?_
      refine so_putfI cl_7 (k := 23) (by decide) rfl rfl w_585 d_X_copy_21 ?_
      refine so_aload_n d_X_copy_24 rfl ?_
      refine so_aload_n d_X_copy_25 rfl ?_
      refine so_getf cl_7 (k := 21) (by decide) w_583 d_X_copy_26 ?_
      refine so_aload_n d_X_copy_29 rfl ?_
      refine so_getf cl_7 (k := 22) (by decide) w_584 d_X_copy_30 ?_
      refine so_iconst d_X_copy_33 rfl ?_
      refine so_callV cl_7 f_X_range w_759 w_46 w_757 (by decide) (by decide) d_X_copy_34 ?_
      exact so_jmp
    · refine so_bipush d_X_copy_16 rfl ?_
      exact so_iret d_X_copy_18 rfl
def k_X_copy_37 (G : oG) (Post : oP) : oK := o_istore 1 <| o_aload 0 <| o_callV G 7 m_X_take 0 <| o_jmp G m_X_copy Post 42 [0, 1]
theorem s_X_copy_37 {G : oG} {Post : oP} : oS G m_X_copy Post 37 (k_X_copy_37 G Post) := by
  unfold k_X_copy_37
  refine so_istore_n d_X_copy_37 rfl (by decide) ?_
  refine so_aload_n d_X_copy_38 rfl ?_
  refine so_callV cl_7 f_X_take w_763 w_47 w_761 (by decide) (by decide) d_X_copy_39 ?_
  exact so_jmp
def k_X_copy_42 (G : oG) (Post : oP) : oK := o_aload 0 <| o_iconst 0 <| o_putfI 7 23 <| o_iload 1 <| o_ifeq (o_iconst (-14) <| o_iret Post) (o_aload 0 <| o_aload 0 <| o_getf 7 20 <| o_aload 0 <| o_getf 7 22 <| o_iconst 2 <| o_callV G 7 m_X_range 3 <| o_jmp G m_X_copy Post 64 [0])
theorem s_X_copy_42 {G : oG} {Post : oP} : oS G m_X_copy Post 42 (k_X_copy_42 G Post) := by
  unfold k_X_copy_42
  refine so_aload_n d_X_copy_42 rfl ?_
  refine so_iconst d_X_copy_43 rfl ?_
  refine so_putfI cl_7 (k := 23) (by decide) rfl rfl w_585 d_X_copy_44 ?_
  refine so_iload_n d_X_copy_47 rfl ?_
  refine so_ifeq d_X_copy_48 (tgt := 67) (by decide) ?_ ?_
  · refine so_bipush d_X_copy_67 rfl ?_
    exact so_iret d_X_copy_69 rfl
  · refine so_aload_n d_X_copy_51 rfl ?_
    refine so_aload_n d_X_copy_52 rfl ?_
    refine so_getf cl_7 (k := 20) (by decide) w_582 d_X_copy_53 ?_
    refine so_aload_n d_X_copy_56 rfl ?_
    refine so_getf cl_7 (k := 22) (by decide) w_584 d_X_copy_57 ?_
    refine so_iconst d_X_copy_60 rfl ?_
    refine so_callV cl_7 f_X_range w_759 w_46 w_757 (by decide) (by decide) d_X_copy_61 ?_
    exact so_jmp
def k_X_copy_64 (G : oG) (Post : oP) : oK := o_ifne (o_iconst 0 <| o_istore 2 <| o_jmp G m_X_copy Post 72 [0, 2]) (o_iconst (-14) <| o_iret Post)
theorem s_X_copy_64 {G : oG} {Post : oP} : oS G m_X_copy Post 64 (k_X_copy_64 G Post) := by
  unfold k_X_copy_64
  refine so_ifne d_X_copy_64 (tgt := 70) (by decide) ?_ ?_
  · refine so_iconst d_X_copy_70 rfl ?_
    refine so_istore_n d_X_copy_71 rfl (by decide) ?_
    exact so_jmp
  · refine so_bipush d_X_copy_67 rfl ?_
    exact so_iret d_X_copy_69 rfl
def k_X_copy_72 (G : oG) (Post : oP) : oK := o_iload 2 <| o_aload 0 <| o_getf 7 22 <| o_icmpge (o_aload 0 <| o_getf 7 22 <| o_iret Post) (o_aload 0 <| o_getf 7 0 <| o_aload 0 <| o_getf 7 24 <| o_iload 2 <| o_iald G <| o_aload 0 <| o_getf 7 25 <| o_iload 2 <| o_iald G <| o_iast <| o_iinc 2 1 <| o_jmp G m_X_copy Post 72 [0, 2])
theorem s_X_copy_72 {G : oG} {Post : oP} : oS G m_X_copy Post 72 (k_X_copy_72 G Post) := by
  unfold k_X_copy_72
  refine so_iload_n d_X_copy_72 rfl ?_
  refine so_aload_n d_X_copy_73 rfl ?_
  refine so_getf cl_7 (k := 22) (by decide) w_584 d_X_copy_74 ?_
  refine so_icmpge d_X_copy_77 (tgt := 103) (by decide) ?_ ?_
  · refine so_aload_n d_X_copy_103 rfl ?_
    refine so_getf cl_7 (k := 22) (by decide) w_584 d_X_copy_104 ?_
    exact so_iret d_X_copy_107 rfl
  · refine so_aload_n d_X_copy_80 rfl ?_
    refine so_getf cl_7 (k := 0) (by decide) w_562 d_X_copy_81 ?_
    refine so_aload_n d_X_copy_84 rfl ?_
    refine so_getf cl_7 (k := 24) (by decide) w_586 d_X_copy_85 ?_
    refine so_iload_n d_X_copy_88 rfl ?_
    refine so_iald d_X_copy_89 ?_
    refine so_aload_n d_X_copy_90 rfl ?_
    refine so_getf cl_7 (k := 25) (by decide) w_587 d_X_copy_91 ?_
    refine so_iload_n d_X_copy_94 rfl ?_
    refine so_iald d_X_copy_95 ?_
    refine so_iast d_X_copy_96 ?_
    refine so_iinc d_X_copy_97 rfl (by decide) ?_
    refine so_goto d_X_copy_100 (tgt := 72) (by decide) ?_
    exact so_jmp
theorem d_X_protect_0 : decode prog_9_method_54_code 0 = .ok (.aload_n 0, 1) := by decide +kernel
theorem d_X_protect_1 : decode prog_9_method_54_code 1 = .ok (.getfield 96, 3) := by decide +kernel
theorem d_X_protect_4 : decode prog_9_method_54_code 4 = .ok (.ifCond .lt 27, 3) := by decide +kernel
theorem d_X_protect_7 : decode prog_9_method_54_code 7 = .ok (.aload_n 0, 1) := by decide +kernel
theorem d_X_protect_8 : decode prog_9_method_54_code 8 = .ok (.getfield 96, 3) := by decide +kernel
theorem d_X_protect_11 : decode prog_9_method_54_code 11 = .ok (.bipush 15, 2) := by decide +kernel
theorem d_X_protect_13 : decode prog_9_method_54_code 13 = .ok (.if_icmp .gt 18, 3) := by decide +kernel
theorem d_X_protect_16 : decode prog_9_method_54_code 16 = .ok (.aload_n 0, 1) := by decide +kernel
theorem d_X_protect_17 : decode prog_9_method_54_code 17 = .ok (.getfield 99, 3) := by decide +kernel
theorem d_X_protect_20 : decode prog_9_method_54_code 20 = .ok (.ifCond .lt 11, 3) := by decide +kernel
theorem d_X_protect_23 : decode prog_9_method_54_code 23 = .ok (.aload_n 0, 1) := by decide +kernel
theorem d_X_protect_24 : decode prog_9_method_54_code 24 = .ok (.getfield 99, 3) := by decide +kernel
theorem d_X_protect_27 : decode prog_9_method_54_code 27 = .ok (.iconst 3, 1) := by decide +kernel
theorem d_X_protect_28 : decode prog_9_method_54_code 28 = .ok (.if_icmp .le 6, 3) := by decide +kernel
theorem d_X_protect_31 : decode prog_9_method_54_code 31 = .ok (.bipush (-22), 2) := by decide +kernel
theorem d_X_protect_33 : decode prog_9_method_54_code 33 = .ok (.ireturn, 1) := by decide +kernel
theorem d_X_protect_34 : decode prog_9_method_54_code 34 = .ok (.bipush 16, 2) := by decide +kernel
theorem d_X_protect_36 : decode prog_9_method_54_code 36 = .ok (.aload_n 0, 1) := by decide +kernel
theorem d_X_protect_37 : decode prog_9_method_54_code 37 = .ok (.getfield 92, 3) := by decide +kernel
theorem d_X_protect_40 : decode prog_9_method_54_code 40 = .ok (.imul, 1) := by decide +kernel
theorem d_X_protect_41 : decode prog_9_method_54_code 41 = .ok (.aload_n 0, 1) := by decide +kernel
theorem d_X_protect_42 : decode prog_9_method_54_code 42 = .ok (.getfield 96, 3) := by decide +kernel
theorem d_X_protect_45 : decode prog_9_method_54_code 45 = .ok (.iadd, 1) := by decide +kernel
theorem d_X_protect_46 : decode prog_9_method_54_code 46 = .ok (.istore_n 1, 1) := by decide +kernel
theorem d_X_protect_47 : decode prog_9_method_54_code 47 = .ok (.aload_n 0, 1) := by decide +kernel
theorem d_X_protect_48 : decode prog_9_method_54_code 48 = .ok (.getfield 13, 3) := by decide +kernel
theorem d_X_protect_51 : decode prog_9_method_54_code 51 = .ok (.iload_n 1, 1) := by decide +kernel
theorem d_X_protect_52 : decode prog_9_method_54_code 52 = .ok (.iaload, 1) := by decide +kernel
theorem d_X_protect_53 : decode prog_9_method_54_code 53 = .ok (.ifCond .eq 14, 3) := by decide +kernel
theorem d_X_protect_56 : decode prog_9_method_54_code 56 = .ok (.aload_n 0, 1) := by decide +kernel
theorem d_X_protect_57 : decode prog_9_method_54_code 57 = .ok (.getfield 16, 3) := by decide +kernel
theorem d_X_protect_60 : decode prog_9_method_54_code 60 = .ok (.iload_n 1, 1) := by decide +kernel
theorem d_X_protect_61 : decode prog_9_method_54_code 61 = .ok (.iaload, 1) := by decide +kernel
theorem d_X_protect_62 : decode prog_9_method_54_code 62 = .ok (.iconst 4, 1) := by decide +kernel
theorem d_X_protect_63 : decode prog_9_method_54_code 63 = .ok (.iand, 1) := by decide +kernel
theorem d_X_protect_64 : decode prog_9_method_54_code 64 = .ok (.ifCond .ne 6, 3) := by decide +kernel
theorem d_X_protect_67 : decode prog_9_method_54_code 67 = .ok (.bipush (-14), 2) := by decide +kernel
theorem d_X_protect_69 : decode prog_9_method_54_code 69 = .ok (.ireturn, 1) := by decide +kernel
theorem d_X_protect_70 : decode prog_9_method_54_code 70 = .ok (.aload_n 0, 1) := by decide +kernel
theorem d_X_protect_71 : decode prog_9_method_54_code 71 = .ok (.getfield 16, 3) := by decide +kernel
theorem d_X_protect_74 : decode prog_9_method_54_code 74 = .ok (.iload_n 1, 1) := by decide +kernel
theorem d_X_protect_75 : decode prog_9_method_54_code 75 = .ok (.iaload, 1) := by decide +kernel
theorem d_X_protect_76 : decode prog_9_method_54_code 76 = .ok (.iconst 3, 1) := by decide +kernel
theorem d_X_protect_77 : decode prog_9_method_54_code 77 = .ok (.iand, 1) := by decide +kernel
theorem d_X_protect_78 : decode prog_9_method_54_code 78 = .ok (.istore_n 2, 1) := by decide +kernel
theorem d_X_protect_79 : decode prog_9_method_54_code 79 = .ok (.aload_n 0, 1) := by decide +kernel
theorem d_X_protect_80 : decode prog_9_method_54_code 80 = .ok (.getfield 16, 3) := by decide +kernel
theorem d_X_protect_83 : decode prog_9_method_54_code 83 = .ok (.iload_n 1, 1) := by decide +kernel
theorem d_X_protect_84 : decode prog_9_method_54_code 84 = .ok (.iconst 4, 1) := by decide +kernel
theorem d_X_protect_85 : decode prog_9_method_54_code 85 = .ok (.aload_n 0, 1) := by decide +kernel
theorem d_X_protect_86 : decode prog_9_method_54_code 86 = .ok (.getfield 99, 3) := by decide +kernel
theorem d_X_protect_89 : decode prog_9_method_54_code 89 = .ok (.iadd, 1) := by decide +kernel
theorem d_X_protect_90 : decode prog_9_method_54_code 90 = .ok (.iastore, 1) := by decide +kernel
theorem d_X_protect_91 : decode prog_9_method_54_code 91 = .ok (.iload_n 2, 1) := by decide +kernel
theorem d_X_protect_92 : decode prog_9_method_54_code 92 = .ok (.ireturn, 1) := by decide +kernel
def k_X_protect_0 (G : oG) (Post : oP) : oK := o_aload 0 <| o_getf 7 20 <| o_iflt (o_iconst (-22) <| o_iret Post) (o_aload 0 <| o_getf 7 20 <| o_iconst 15 <| o_icmpgt (o_iconst (-22) <| o_iret Post) (o_aload 0 <| o_getf 7 21 <| o_iflt (o_iconst (-22) <| o_iret Post) (o_aload 0 <| o_getf 7 21 <| o_iconst 3 <| o_icmple (o_jmp G m_X_protect Post 34 [0]) (o_iconst (-22) <| o_iret Post))))
theorem s_X_protect_0 {G : oG} {Post : oP} : oS G m_X_protect Post 0 (k_X_protect_0 G Post) := by
  unfold k_X_protect_0
  refine so_aload_n d_X_protect_0 rfl ?_
  refine so_getf cl_7 (k := 20) (by decide) w_582 d_X_protect_1 ?_
  refine so_iflt d_X_protect_4 (tgt := 31) (by decide) ?_ ?_
  · refine so_bipush d_X_protect_31 rfl ?_
    exact so_iret d_X_protect_33 rfl
  · refine so_aload_n d_X_protect_7 rfl ?_
    refine so_getf cl_7 (k := 20) (by decide) w_582 d_X_protect_8 ?_
    refine so_bipush d_X_protect_11 rfl ?_
    refine so_icmpgt d_X_protect_13 (tgt := 31) (by decide) ?_ ?_
    · refine so_bipush d_X_protect_31 rfl ?_
      exact so_iret d_X_protect_33 rfl
    · refine so_aload_n d_X_protect_16 rfl ?_
      refine so_getf cl_7 (k := 21) (by decide) w_583 d_X_protect_17 ?_
      refine so_iflt d_X_protect_20 (tgt := 31) (by decide) ?_ ?_
      · refine so_bipush d_X_protect_31 rfl ?_
        exact so_iret d_X_protect_33 rfl
      · refine so_aload_n d_X_protect_23 rfl ?_
        refine so_getf cl_7 (k := 21) (by decide) w_583 d_X_protect_24 ?_
        refine so_iconst d_X_protect_27 rfl ?_
        refine so_icmple d_X_protect_28 (tgt := 34) (by decide) ?_ ?_
        · exact so_jmp
        · refine so_bipush d_X_protect_31 rfl ?_
          exact so_iret d_X_protect_33 rfl
def k_X_protect_34 (G : oG) (Post : oP) : oK := o_iconst 16 <| o_aload 0 <| o_getf 7 19 <| o_imul <| o_aload 0 <| o_getf 7 20 <| o_iadd <| o_istore 1 <| o_aload 0 <| o_getf 7 1 <| o_iload 1 <| o_iald G <| o_ifeq (o_iconst (-14) <| o_iret Post) (o_aload 0 <| o_getf 7 2 <| o_iload 1 <| o_iald G <| o_iconst 4 <| o_iand <| o_ifne (o_jmp G m_X_protect Post 70 [0, 1]) (o_iconst (-14) <| o_iret Post))
theorem s_X_protect_34 {G : oG} {Post : oP} : oS G m_X_protect Post 34 (k_X_protect_34 G Post) := by
  unfold k_X_protect_34
  refine so_bipush d_X_protect_34 rfl ?_
  refine so_aload_n d_X_protect_36 rfl ?_
  refine so_getf cl_7 (k := 19) (by decide) w_581 d_X_protect_37 ?_
  refine so_imul d_X_protect_40 ?_
  refine so_aload_n d_X_protect_41 rfl ?_
  refine so_getf cl_7 (k := 20) (by decide) w_582 d_X_protect_42 ?_
  refine so_iadd d_X_protect_45 ?_
  refine so_istore_n d_X_protect_46 rfl (by decide) ?_
  refine so_aload_n d_X_protect_47 rfl ?_
  refine so_getf cl_7 (k := 1) (by decide) w_563 d_X_protect_48 ?_
  refine so_iload_n d_X_protect_51 rfl ?_
  refine so_iald d_X_protect_52 ?_
  refine so_ifeq d_X_protect_53 (tgt := 67) (by decide) ?_ ?_
  · refine so_bipush d_X_protect_67 rfl ?_
    exact so_iret d_X_protect_69 rfl
  · refine so_aload_n d_X_protect_56 rfl ?_
    refine so_getf cl_7 (k := 2) (by decide) w_564 d_X_protect_57 ?_
    refine so_iload_n d_X_protect_60 rfl ?_
    refine so_iald d_X_protect_61 ?_
    refine so_iconst d_X_protect_62 rfl ?_
    refine so_iand d_X_protect_63 ?_
    refine so_ifne d_X_protect_64 (tgt := 70) (by decide) ?_ ?_
    · exact so_jmp
    · refine so_bipush d_X_protect_67 rfl ?_
      exact so_iret d_X_protect_69 rfl
def k_X_protect_70 (G : oG) (Post : oP) : oK := o_aload 0 <| o_getf 7 2 <| o_iload 1 <| o_iald G <| o_iconst 3 <| o_iand <| o_istore 2 <| o_aload 0 <| o_getf 7 2 <| o_iload 1 <| o_iconst 4 <| o_aload 0 <| o_getf 7 21 <| o_iadd <| o_iast <| o_iload 2 <| o_iret Post
theorem s_X_protect_70 {G : oG} {Post : oP} : oS G m_X_protect Post 70 (k_X_protect_70 G Post) := by
  unfold k_X_protect_70
  refine so_aload_n d_X_protect_70 rfl ?_
  refine so_getf cl_7 (k := 2) (by decide) w_564 d_X_protect_71 ?_
  refine so_iload_n d_X_protect_74 rfl ?_
  refine so_iald d_X_protect_75 ?_
  refine so_iconst d_X_protect_76 rfl ?_
  refine so_iand d_X_protect_77 ?_
  refine so_istore_n d_X_protect_78 rfl (by decide) ?_
  refine so_aload_n d_X_protect_79 rfl ?_
  refine so_getf cl_7 (k := 2) (by decide) w_564 d_X_protect_80 ?_
  refine so_iload_n d_X_protect_83 rfl ?_
  refine so_iconst d_X_protect_84 rfl ?_
  refine so_aload_n d_X_protect_85 rfl ?_
  refine so_getf cl_7 (k := 21) (by decide) w_583 d_X_protect_86 ?_
  refine so_iadd d_X_protect_89 ?_
  refine so_iast d_X_protect_90 ?_
  refine so_iload_n d_X_protect_91 rfl ?_
  exact so_iret d_X_protect_92 rfl
theorem d_X_rename_0 : decode prog_9_method_48_code 0 = .ok (.aload_n 0, 1) := by decide +kernel
theorem d_X_rename_1 : decode prog_9_method_48_code 1 = .ok (.invokevirtual 226, 3) := by decide +kernel
theorem d_X_rename_4 : decode prog_9_method_48_code 4 = .ok (.ifCond .ne 6, 3) := by decide +kernel
theorem d_X_rename_7 : decode prog_9_method_48_code 7 = .ok (.bipush (-14), 2) := by decide +kernel
theorem d_X_rename_9 : decode prog_9_method_48_code 9 = .ok (.ireturn, 1) := by decide +kernel
theorem d_X_rename_10 : decode prog_9_method_48_code 10 = .ok (.aload_n 0, 1) := by decide +kernel
theorem d_X_rename_11 : decode prog_9_method_48_code 11 = .ok (.iconst 0, 1) := by decide +kernel
theorem d_X_rename_12 : decode prog_9_method_48_code 12 = .ok (.invokevirtual 180, 3) := by decide +kernel
theorem d_X_rename_15 : decode prog_9_method_48_code 15 = .ok (.istore_n 1, 1) := by decide +kernel
theorem d_X_rename_16 : decode prog_9_method_48_code 16 = .ok (.iload_n 1, 1) := by decide +kernel
theorem d_X_rename_17 : decode prog_9_method_48_code 17 = .ok (.ifCond .lt 12, 3) := by decide +kernel
theorem d_X_rename_20 : decode prog_9_method_48_code 20 = .ok (.aload_n 0, 1) := by decide +kernel
theorem d_X_rename_21 : decode prog_9_method_48_code 21 = .ok (.getfield 74, 3) := by decide +kernel
theorem d_X_rename_24 : decode prog_9_method_48_code 24 = .ok (.iconst 1, 1) := by decide +kernel
theorem d_X_rename_25 : decode prog_9_method_48_code 25 = .ok (.iaload, 1) := by decide +kernel
theorem d_X_rename_26 : decode prog_9_method_48_code 26 = .ok (.ifCond .ne 6, 3) := by decide +kernel
theorem d_X_rename_29 : decode prog_9_method_48_code 29 = .ok (.bipush (-2), 2) := by decide +kernel
theorem d_X_rename_31 : decode prog_9_method_48_code 31 = .ok (.ireturn, 1) := by decide +kernel
theorem d_X_rename_32 : decode prog_9_method_48_code 32 = .ok (.aload_n 0, 1) := by decide +kernel
theorem d_X_rename_33 : decode prog_9_method_48_code 33 = .ok (.iconst 1, 1) := by decide +kernel
theorem d_X_rename_34 : decode prog_9_method_48_code 34 = .ok (.invokevirtual 180, 3) := by decide +kernel
theorem d_X_rename_37 : decode prog_9_method_48_code 37 = .ok (.istore_n 2, 1) := by decide +kernel
theorem d_X_rename_38 : decode prog_9_method_48_code 38 = .ok (.iload_n 2, 1) := by decide +kernel
theorem d_X_rename_39 : decode prog_9_method_48_code 39 = .ok (.iload_n 1, 1) := by decide +kernel
theorem d_X_rename_40 : decode prog_9_method_48_code 40 = .ok (.if_icmp .eq 26, 3) := by decide +kernel
theorem d_X_rename_43 : decode prog_9_method_48_code 43 = .ok (.iload_n 2, 1) := by decide +kernel
theorem d_X_rename_44 : decode prog_9_method_48_code 44 = .ok (.ifCond .lt 10, 3) := by decide +kernel
theorem d_X_rename_47 : decode prog_9_method_48_code 47 = .ok (.aload_n 0, 1) := by decide +kernel
theorem d_X_rename_48 : decode prog_9_method_48_code 48 = .ok (.getfield 32, 3) := by decide +kernel
theorem d_X_rename_51 : decode prog_9_method_48_code 51 = .ok (.iload_n 2, 1) := by decide +kernel
theorem d_X_rename_52 : decode prog_9_method_48_code 52 = .ok (.iconst 0, 1) := by decide +kernel
theorem d_X_rename_53 : decode prog_9_method_48_code 53 = .ok (.iastore, 1) := by decide +kernel
theorem d_X_rename_54 : decode prog_9_method_48_code 54 = .ok (.aload_n 0, 1) := by decide +kernel
theorem d_X_rename_55 : decode prog_9_method_48_code 55 = .ok (.iload_n 1, 1) := by decide +kernel
theorem d_X_rename_56 : decode prog_9_method_48_code 56 = .ok (.iconst 1, 1) := by decide +kernel
theorem d_X_rename_57 : decode prog_9_method_48_code 57 = .ok (.aload_n 0, 1) := by decide +kernel
theorem d_X_rename_58 : decode prog_9_method_48_code 58 = .ok (.getfield 38, 3) := by decide +kernel
theorem d_X_rename_61 : decode prog_9_method_48_code 61 = .ok (.iload_n 1, 1) := by decide +kernel
theorem d_X_rename_62 : decode prog_9_method_48_code 62 = .ok (.iaload, 1) := by decide +kernel
theorem d_X_rename_63 : decode prog_9_method_48_code 63 = .ok (.invokevirtual 192, 3) := by decide +kernel
theorem d_X_rename_66 : decode prog_9_method_48_code 66 = .ok (.iconst 0, 1) := by decide +kernel
theorem d_X_rename_67 : decode prog_9_method_48_code 67 = .ok (.ireturn, 1) := by decide +kernel
def k_X_rename_0 (G : oG) (Post : oP) : oK := o_aload 0 <| o_callV G 7 m_X_strings 0 <| o_jmp G m_X_rename Post 4 [0]
theorem s_X_rename_0 {G : oG} {Post : oP} : oS G m_X_rename Post 0 (k_X_rename_0 G Post) := by
  unfold k_X_rename_0
  refine so_aload_n d_X_rename_0 rfl ?_
  refine so_callV cl_7 f_X_strings w_807 w_58 w_805 (by decide) (by decide) d_X_rename_1 ?_
  exact so_jmp
def k_X_rename_4 (G : oG) (Post : oP) : oK := o_ifne (o_aload 0 <| o_iconst 0 <| o_callV G 7 m_X_name 1 <| o_jmp G m_X_rename Post 15 [0]) (o_iconst (-14) <| o_iret Post)
theorem s_X_rename_4 {G : oG} {Post : oP} : oS G m_X_rename Post 4 (k_X_rename_4 G Post) := by
  unfold k_X_rename_4
  refine so_ifne d_X_rename_4 (tgt := 10) (by decide) ?_ ?_
  · refine so_aload_n d_X_rename_10 rfl ?_
    refine so_iconst d_X_rename_11 rfl ?_
    refine so_callV cl_7 f_X_name w_711 w_34 w_709 (by decide) (by decide) d_X_rename_12 ?_
    exact so_jmp
  · refine so_bipush d_X_rename_7 rfl ?_
    exact so_iret d_X_rename_9 rfl
def k_X_rename_15 (G : oG) (Post : oP) : oK := o_istore 1 <| o_iload 1 <| o_iflt (o_iconst (-2) <| o_iret Post) (o_aload 0 <| o_getf 7 27 <| o_iconst 1 <| o_iald G <| o_ifne (o_aload 0 <| o_iconst 1 <| o_callV G 7 m_X_name 1 <| o_jmp G m_X_rename Post 37 [0, 1]) (o_iconst (-2) <| o_iret Post))
theorem s_X_rename_15 {G : oG} {Post : oP} : oS G m_X_rename Post 15 (k_X_rename_15 G Post) := by
  unfold k_X_rename_15
  refine so_istore_n d_X_rename_15 rfl (by decide) ?_
  refine so_iload_n d_X_rename_16 rfl ?_
  refine so_iflt d_X_rename_17 (tgt := 29) (by decide) ?_ ?_
  · refine so_bipush d_X_rename_29 rfl ?_
    exact so_iret d_X_rename_31 rfl
  · refine so_aload_n d_X_rename_20 rfl ?_
    refine so_getf cl_7 (k := 27) (by decide) w_589 d_X_rename_21 ?_
    refine so_iconst d_X_rename_24 rfl ?_
    refine so_iald d_X_rename_25 ?_
    refine so_ifne d_X_rename_26 (tgt := 32) (by decide) ?_ ?_
    · refine so_aload_n d_X_rename_32 rfl ?_
      refine so_iconst d_X_rename_33 rfl ?_
      refine so_callV cl_7 f_X_name w_711 w_34 w_709 (by decide) (by decide) d_X_rename_34 ?_
      exact so_jmp
    · refine so_bipush d_X_rename_29 rfl ?_
      exact so_iret d_X_rename_31 rfl
def k_X_rename_37 (G : oG) (Post : oP) : oK := o_istore 2 <| o_iload 2 <| o_iload 1 <| o_icmpeq (o_jmp G m_X_rename Post 66 []) (o_iload 2 <| o_iflt (o_aload 0 <| o_iload 1 <| o_iconst 1 <| o_aload 0 <| o_getf 7 10 <| o_iload 1 <| o_iald G <| o_callV G 7 m_X_give 3 <| o_jmp G m_X_rename Post 66 []) (o_aload 0 <| o_getf 7 8 <| o_iload 2 <| o_iconst 0 <| o_iast <| o_aload 0 <| o_iload 1 <| o_iconst 1 <| o_aload 0 <| o_getf 7 10 <| o_iload 1 <| o_iald G <| o_callV G 7 m_X_give 3 <| o_jmp G m_X_rename Post 66 []))
theorem s_X_rename_37 {G : oG} {Post : oP} : oS G m_X_rename Post 37 (k_X_rename_37 G Post) := by
  unfold k_X_rename_37
  refine so_istore_n d_X_rename_37 rfl (by decide) ?_
  refine so_iload_n d_X_rename_38 rfl ?_
  refine so_iload_n d_X_rename_39 rfl ?_
  refine so_icmpeq d_X_rename_40 (tgt := 66) (by decide) ?_ ?_
  · exact so_jmp
  · refine so_iload_n d_X_rename_43 rfl ?_
    refine so_iflt d_X_rename_44 (tgt := 54) (by decide) ?_ ?_
    · refine so_aload_n d_X_rename_54 rfl ?_
      refine so_iload_n d_X_rename_55 rfl ?_
      refine so_iconst d_X_rename_56 rfl ?_
      refine so_aload_n d_X_rename_57 rfl ?_
      refine so_getf cl_7 (k := 10) (by decide) w_572 d_X_rename_58 ?_
      refine so_iload_n d_X_rename_61 rfl ?_
      refine so_iald d_X_rename_62 ?_
      refine so_callV cl_7 f_X_give w_735 w_40 w_733 (by decide) (by decide) d_X_rename_63 ?_
      exact so_jmp
    · refine so_aload_n d_X_rename_47 rfl ?_
      refine so_getf cl_7 (k := 8) (by decide) w_570 d_X_rename_48 ?_
      refine so_iload_n d_X_rename_51 rfl ?_
      refine so_iconst d_X_rename_52 rfl ?_
      refine so_iast d_X_rename_53 ?_
      refine so_aload_n d_X_rename_54 rfl ?_
      refine so_iload_n d_X_rename_55 rfl ?_
      refine so_iconst d_X_rename_56 rfl ?_
      refine so_aload_n d_X_rename_57 rfl ?_
      refine so_getf cl_7 (k := 10) (by decide) w_572 d_X_rename_58 ?_
      refine so_iload_n d_X_rename_61 rfl ?_
      refine so_iald d_X_rename_62 ?_
      refine so_callV cl_7 f_X_give w_735 w_40 w_733 (by decide) (by decide) d_X_rename_63 ?_
      exact so_jmp
def k_X_rename_66 (G : oG) (Post : oP) : oK := o_iconst 0 <| o_iret Post
theorem s_X_rename_66 {G : oG} {Post : oP} : oS G m_X_rename Post 66 (k_X_rename_66 G Post) := by
  unfold k_X_rename_66
  refine so_iconst d_X_rename_66 rfl ?_
  exact so_iret d_X_rename_67 rfl
theorem d_X_second_0 : decode prog_9_method_15_code 0 = .ok (.iload_n 1, 1) := by decide +kernel
theorem d_X_second_1 : decode prog_9_method_15_code 1 = .ok (.tableswitch 100 9 17 #[51, 56, 61, 66, 71, 76, 81, 88, 95], 51) := by decide +kernel
theorem d_X_second_52 : decode prog_9_method_15_code 52 = .ok (.aload_n 0, 1) := by decide +kernel
theorem d_X_second_53 : decode prog_9_method_15_code 53 = .ok (.invokevirtual 138, 3) := by decide +kernel
theorem d_X_second_56 : decode prog_9_method_15_code 56 = .ok (.ireturn, 1) := by decide +kernel
theorem d_X_second_57 : decode prog_9_method_15_code 57 = .ok (.aload_n 0, 1) := by decide +kernel
theorem d_X_second_58 : decode prog_9_method_15_code 58 = .ok (.invokevirtual 141, 3) := by decide +kernel
theorem d_X_second_61 : decode prog_9_method_15_code 61 = .ok (.ireturn, 1) := by decide +kernel
theorem d_X_second_62 : decode prog_9_method_15_code 62 = .ok (.aload_n 0, 1) := by decide +kernel
theorem d_X_second_63 : decode prog_9_method_15_code 63 = .ok (.invokevirtual 144, 3) := by decide +kernel
theorem d_X_second_66 : decode prog_9_method_15_code 66 = .ok (.ireturn, 1) := by decide +kernel
theorem d_X_second_67 : decode prog_9_method_15_code 67 = .ok (.aload_n 0, 1) := by decide +kernel
theorem d_X_second_68 : decode prog_9_method_15_code 68 = .ok (.invokevirtual 147, 3) := by decide +kernel
theorem d_X_second_71 : decode prog_9_method_15_code 71 = .ok (.ireturn, 1) := by decide +kernel
theorem d_X_second_72 : decode prog_9_method_15_code 72 = .ok (.aload_n 0, 1) := by decide +kernel
theorem d_X_second_73 : decode prog_9_method_15_code 73 = .ok (.invokevirtual 150, 3) := by decide +kernel
theorem d_X_second_76 : decode prog_9_method_15_code 76 = .ok (.ireturn, 1) := by decide +kernel
theorem d_X_second_77 : decode prog_9_method_15_code 77 = .ok (.aload_n 0, 1) := by decide +kernel
theorem d_X_second_78 : decode prog_9_method_15_code 78 = .ok (.invokevirtual 153, 3) := by decide +kernel
theorem d_X_second_81 : decode prog_9_method_15_code 81 = .ok (.ireturn, 1) := by decide +kernel
theorem d_X_second_82 : decode prog_9_method_15_code 82 = .ok (.aload_n 0, 1) := by decide +kernel
theorem d_X_second_83 : decode prog_9_method_15_code 83 = .ok (.iconst 0, 1) := by decide +kernel
theorem d_X_second_84 : decode prog_9_method_15_code 84 = .ok (.iconst 1, 1) := by decide +kernel
theorem d_X_second_85 : decode prog_9_method_15_code 85 = .ok (.invokevirtual 125, 3) := by decide +kernel
theorem d_X_second_88 : decode prog_9_method_15_code 88 = .ok (.ireturn, 1) := by decide +kernel
theorem d_X_second_89 : decode prog_9_method_15_code 89 = .ok (.aload_n 0, 1) := by decide +kernel
theorem d_X_second_90 : decode prog_9_method_15_code 90 = .ok (.iconst 1, 1) := by decide +kernel
theorem d_X_second_91 : decode prog_9_method_15_code 91 = .ok (.iconst 1, 1) := by decide +kernel
theorem d_X_second_92 : decode prog_9_method_15_code 92 = .ok (.invokevirtual 125, 3) := by decide +kernel
theorem d_X_second_95 : decode prog_9_method_15_code 95 = .ok (.ireturn, 1) := by decide +kernel
theorem d_X_second_96 : decode prog_9_method_15_code 96 = .ok (.aload_n 0, 1) := by decide +kernel
theorem d_X_second_97 : decode prog_9_method_15_code 97 = .ok (.invokevirtual 156, 3) := by decide +kernel
theorem d_X_second_100 : decode prog_9_method_15_code 100 = .ok (.ireturn, 1) := by decide +kernel
theorem d_X_second_101 : decode prog_9_method_15_code 101 = .ok (.bipush (-38), 2) := by decide +kernel
theorem d_X_second_103 : decode prog_9_method_15_code 103 = .ok (.ireturn, 1) := by decide +kernel
def k_X_second_0 (G : oG) (Post : oP) : oK := o_iload 1 <| o_tsw G m_X_second Post 9 [52, 57, 62, 67, 72, 77, 82, 89, 96] 101 [0]
theorem s_X_second_0 {G : oG} {Post : oP} : oS G m_X_second Post 0 (k_X_second_0 G Post) := by
  unfold k_X_second_0
  refine so_iload_n d_X_second_0 rfl ?_
  exact so_tsw d_X_second_1 (by decide) (by decide) (by decide)
def k_X_second_52 (G : oG) (Post : oP) : oK := o_aload 0 <| o_callV G 7 m_X_link 0 <| o_jmp G m_X_second Post 56 []
theorem s_X_second_52 {G : oG} {Post : oP} : oS G m_X_second Post 52 (k_X_second_52 G Post) := by
  unfold k_X_second_52
  refine so_aload_n d_X_second_52 rfl ?_
  refine so_callV cl_7 f_X_link w_803 w_57 w_801 (by decide) (by decide) d_X_second_53 ?_
  exact so_jmp
def k_X_second_56 (G : oG) (Post : oP) : oK := o_iret Post
theorem s_X_second_56 {G : oG} {Post : oP} : oS G m_X_second Post 56 (k_X_second_56 G Post) := by
  unfold k_X_second_56
  exact so_iret d_X_second_56 rfl
def k_X_second_57 (G : oG) (Post : oP) : oK := o_aload 0 <| o_callV G 7 m_X_stat 0 <| o_jmp G m_X_second Post 61 []
theorem s_X_second_57 {G : oG} {Post : oP} : oS G m_X_second Post 57 (k_X_second_57 G Post) := by
  unfold k_X_second_57
  refine so_aload_n d_X_second_57 rfl ?_
  refine so_callV cl_7 f_X_stat w_811 w_59 w_809 (by decide) (by decide) d_X_second_58 ?_
  exact so_jmp
def k_X_second_61 (G : oG) (Post : oP) : oK := o_iret Post
theorem s_X_second_61 {G : oG} {Post : oP} : oS G m_X_second Post 61 (k_X_second_61 G Post) := by
  unfold k_X_second_61
  exact so_iret d_X_second_61 rfl
def k_X_second_62 (G : oG) (Post : oP) : oK := o_aload 0 <| o_callV G 7 m_X_pipes 0 <| o_jmp G m_X_second Post 66 []
theorem s_X_second_62 {G : oG} {Post : oP} : oS G m_X_second Post 62 (k_X_second_62 G Post) := by
  unfold k_X_second_62
  refine so_aload_n d_X_second_62 rfl ?_
  refine so_callV cl_7 f_X_pipes w_819 w_61 w_817 (by decide) (by decide) d_X_second_63 ?_
  exact so_jmp
def k_X_second_66 (G : oG) (Post : oP) : oK := o_iret Post
theorem s_X_second_66 {G : oG} {Post : oP} : oS G m_X_second Post 66 (k_X_second_66 G Post) := by
  unfold k_X_second_66
  exact so_iret d_X_second_66 rfl
def k_X_second_67 (G : oG) (Post : oP) : oK := o_aload 0 <| o_callV G 7 m_X_list 0 <| o_jmp G m_X_second Post 71 []
theorem s_X_second_67 {G : oG} {Post : oP} : oS G m_X_second Post 67 (k_X_second_67 G Post) := by
  unfold k_X_second_67
  refine so_aload_n d_X_second_67 rfl ?_
  refine so_callV cl_7 f_X_list w_831 w_62 w_829 (by decide) (by decide) d_X_second_68 ?_
  exact so_jmp
def k_X_second_71 (G : oG) (Post : oP) : oK := o_iret Post
theorem s_X_second_71 {G : oG} {Post : oP} : oS G m_X_second Post 71 (k_X_second_71 G Post) := by
  unfold k_X_second_71
  exact so_iret d_X_second_71 rfl
def k_X_second_72 (G : oG) (Post : oP) : oK := o_aload 0 <| o_callV G 7 m_X_copy 0 <| o_jmp G m_X_second Post 76 []
theorem s_X_second_72 {G : oG} {Post : oP} : oS G m_X_second Post 72 (k_X_second_72 G Post) := by
  unfold k_X_second_72
  refine so_aload_n d_X_second_72 rfl ?_
  refine so_callV cl_7 f_X_copy w_839 w_64 w_837 (by decide) (by decide) d_X_second_73 ?_
  exact so_jmp
def k_X_second_76 (G : oG) (Post : oP) : oK := o_iret Post
theorem s_X_second_76 {G : oG} {Post : oP} : oS G m_X_second Post 76 (k_X_second_76 G Post) := by
  unfold k_X_second_76
  exact so_iret d_X_second_76 rfl
def k_X_second_77 (G : oG) (Post : oP) : oK := o_aload 0 <| o_callV G 7 m_X_protect 0 <| o_jmp G m_X_second Post 81 []
theorem s_X_second_77 {G : oG} {Post : oP} : oS G m_X_second Post 77 (k_X_second_77 G Post) := by
  unfold k_X_second_77
  refine so_aload_n d_X_second_77 rfl ?_
  refine so_callV cl_7 f_X_protect w_843 w_65 w_841 (by decide) (by decide) d_X_second_78 ?_
  exact so_jmp
def k_X_second_81 (G : oG) (Post : oP) : oK := o_iret Post
theorem s_X_second_81 {G : oG} {Post : oP} : oS G m_X_second Post 81 (k_X_second_81 G Post) := by
  unfold k_X_second_81
  exact so_iret d_X_second_81 rfl
def k_X_second_82 (G : oG) (Post : oP) : oK := o_aload 0 <| o_iconst 0 <| o_iconst 1 <| o_callV G 7 m_X_transfer 2 <| o_jmp G m_X_second Post 88 []
theorem s_X_second_82 {G : oG} {Post : oP} : oS G m_X_second Post 82 (k_X_second_82 G Post) := by
  unfold k_X_second_82
  refine so_aload_n d_X_second_82 rfl ?_
  refine so_iconst d_X_second_83 rfl ?_
  refine so_iconst d_X_second_84 rfl ?_
  refine so_callV cl_7 f_X_transfer w_751 w_44 w_749 (by decide) (by decide) d_X_second_85 ?_
  exact so_jmp
def k_X_second_88 (G : oG) (Post : oP) : oK := o_iret Post
theorem s_X_second_88 {G : oG} {Post : oP} : oS G m_X_second Post 88 (k_X_second_88 G Post) := by
  unfold k_X_second_88
  exact so_iret d_X_second_88 rfl
def k_X_second_89 (G : oG) (Post : oP) : oK := o_aload 0 <| o_iconst 1 <| o_iconst 1 <| o_callV G 7 m_X_transfer 2 <| o_jmp G m_X_second Post 95 []
theorem s_X_second_89 {G : oG} {Post : oP} : oS G m_X_second Post 89 (k_X_second_89 G Post) := by
  unfold k_X_second_89
  refine so_aload_n d_X_second_89 rfl ?_
  refine so_iconst d_X_second_90 rfl ?_
  refine so_iconst d_X_second_91 rfl ?_
  refine so_callV cl_7 f_X_transfer w_751 w_44 w_749 (by decide) (by decide) d_X_second_92 ?_
  exact so_jmp
def k_X_second_95 (G : oG) (Post : oP) : oK := o_iret Post
theorem s_X_second_95 {G : oG} {Post : oP} : oS G m_X_second Post 95 (k_X_second_95 G Post) := by
  unfold k_X_second_95
  exact so_iret d_X_second_95 rfl
def k_X_second_96 (G : oG) (Post : oP) : oK := o_aload 0 <| o_callV G 7 m_X_rename 0 <| o_jmp G m_X_second Post 100 []
theorem s_X_second_96 {G : oG} {Post : oP} : oS G m_X_second Post 96 (k_X_second_96 G Post) := by
  unfold k_X_second_96
  refine so_aload_n d_X_second_96 rfl ?_
  refine so_callV cl_7 f_X_rename w_847 w_66 w_845 (by decide) (by decide) d_X_second_97 ?_
  exact so_jmp
def k_X_second_100 (G : oG) (Post : oP) : oK := o_iret Post
theorem s_X_second_100 {G : oG} {Post : oP} : oS G m_X_second Post 100 (k_X_second_100 G Post) := by
  unfold k_X_second_100
  exact so_iret d_X_second_100 rfl
def k_X_second_101 (G : oG) (Post : oP) : oK := o_iconst (-38) <| o_iret Post
theorem s_X_second_101 {G : oG} {Post : oP} : oS G m_X_second Post 101 (k_X_second_101 G Post) := by
  unfold k_X_second_101
  refine so_bipush d_X_second_101 rfl ?_
  exact so_iret d_X_second_103 rfl
theorem d_X_sweep_0 : decode prog_9_method_33_code 0 = .ok (.iconst 0, 1) := by decide +kernel
theorem d_X_sweep_1 : decode prog_9_method_33_code 1 = .ok (.istore_n 1, 1) := by decide +kernel
theorem d_X_sweep_2 : decode prog_9_method_33_code 2 = .ok (.iload_n 1, 1) := by decide +kernel
theorem d_X_sweep_3 : decode prog_9_method_33_code 3 = .ok (.bipush 8, 2) := by decide +kernel
theorem d_X_sweep_5 : decode prog_9_method_33_code 5 = .ok (.if_icmp .ge 67, 3) := by decide +kernel
theorem d_X_sweep_8 : decode prog_9_method_33_code 8 = .ok (.iconst 0, 1) := by decide +kernel
theorem d_X_sweep_9 : decode prog_9_method_33_code 9 = .ok (.istore_n 2, 1) := by decide +kernel
theorem d_X_sweep_10 : decode prog_9_method_33_code 10 = .ok (.iconst 0, 1) := by decide +kernel
theorem d_X_sweep_11 : decode prog_9_method_33_code 11 = .ok (.istore_n 3, 1) := by decide +kernel
theorem d_X_sweep_12 : decode prog_9_method_33_code 12 = .ok (.iload_n 3, 1) := by decide +kernel
theorem d_X_sweep_13 : decode prog_9_method_33_code 13 = .ok (.bipush 15, 2) := by decide +kernel
theorem d_X_sweep_15 : decode prog_9_method_33_code 15 = .ok (.if_icmp .ge 31, 3) := by decide +kernel
theorem d_X_sweep_18 : decode prog_9_method_33_code 18 = .ok (.iload_n 2, 1) := by decide +kernel
theorem d_X_sweep_19 : decode prog_9_method_33_code 19 = .ok (.ifCond .ne 15, 3) := by decide +kernel
theorem d_X_sweep_22 : decode prog_9_method_33_code 22 = .ok (.aload_n 0, 1) := by decide +kernel
theorem d_X_sweep_23 : decode prog_9_method_33_code 23 = .ok (.getfield 62, 3) := by decide +kernel
theorem d_X_sweep_26 : decode prog_9_method_33_code 26 = .ok (.iload_n 3, 1) := by decide +kernel
theorem d_X_sweep_27 : decode prog_9_method_33_code 27 = .ok (.iaload, 1) := by decide +kernel
theorem d_X_sweep_28 : decode prog_9_method_33_code 28 = .ok (.iload_n 1, 1) := by decide +kernel
theorem d_X_sweep_29 : decode prog_9_method_33_code 29 = .ok (.iconst 1, 1) := by decide +kernel
theorem d_X_sweep_30 : decode prog_9_method_33_code 30 = .ok (.iadd, 1) := by decide +kernel
theorem d_X_sweep_31 : decode prog_9_method_33_code 31 = .ok (.if_icmp .ne 7, 3) := by decide +kernel
theorem d_X_sweep_34 : decode prog_9_method_33_code 34 = .ok (.iconst 1, 1) := by decide +kernel
theorem d_X_sweep_35 : decode prog_9_method_33_code 35 = .ok (.goto 4, 3) := by decide +kernel
theorem d_X_sweep_38 : decode prog_9_method_33_code 38 = .ok (.iconst 0, 1) := by decide +kernel
theorem d_X_sweep_39 : decode prog_9_method_33_code 39 = .ok (.istore_n 2, 1) := by decide +kernel
theorem d_X_sweep_40 : decode prog_9_method_33_code 40 = .ok (.iinc 3 1, 3) := by decide +kernel
theorem d_X_sweep_43 : decode prog_9_method_33_code 43 = .ok (.goto (-31), 3) := by decide +kernel
theorem d_X_sweep_46 : decode prog_9_method_33_code 46 = .ok (.aload_n 0, 1) := by decide +kernel
theorem d_X_sweep_47 : decode prog_9_method_33_code 47 = .ok (.getfield 41, 3) := by decide +kernel
theorem d_X_sweep_50 : decode prog_9_method_33_code 50 = .ok (.iload_n 1, 1) := by decide +kernel
theorem d_X_sweep_51 : decode prog_9_method_33_code 51 = .ok (.iload_n 2, 1) := by decide +kernel
theorem d_X_sweep_52 : decode prog_9_method_33_code 52 = .ok (.ifCond .eq 12, 3) := by decide +kernel
theorem d_X_sweep_55 : decode prog_9_method_33_code 55 = .ok (.aload_n 0, 1) := by decide +kernel
theorem d_X_sweep_56 : decode prog_9_method_33_code 56 = .ok (.getfield 41, 3) := by decide +kernel
theorem d_X_sweep_59 : decode prog_9_method_33_code 59 = .ok (.iload_n 1, 1) := by decide +kernel
theorem d_X_sweep_60 : decode prog_9_method_33_code 60 = .ok (.iaload, 1) := by decide +kernel
theorem d_X_sweep_61 : decode prog_9_method_33_code 61 = .ok (.goto 4, 3) := by decide +kernel
theorem d_X_sweep_64 : decode prog_9_method_33_code 64 = .ok (.iconst 0, 1) := by decide +kernel
theorem d_X_sweep_65 : decode prog_9_method_33_code 65 = .ok (.iastore, 1) := by decide +kernel
theorem d_X_sweep_66 : decode prog_9_method_33_code 66 = .ok (.iinc 1 1, 3) := by decide +kernel
theorem d_X_sweep_69 : decode prog_9_method_33_code 69 = .ok (.goto (-67), 3) := by decide +kernel
theorem d_X_sweep_72 : decode prog_9_method_33_code 72 = .ok (.iconst 0, 1) := by decide +kernel
theorem d_X_sweep_73 : decode prog_9_method_33_code 73 = .ok (.istore_n 1, 1) := by decide +kernel
theorem d_X_sweep_74 : decode prog_9_method_33_code 74 = .ok (.iload_n 1, 1) := by decide +kernel
theorem d_X_sweep_75 : decode prog_9_method_33_code 75 = .ok (.bipush 6, 2) := by decide +kernel
theorem d_X_sweep_77 : decode prog_9_method_33_code 77 = .ok (.if_icmp .ge 46, 3) := by decide +kernel
theorem d_X_sweep_80 : decode prog_9_method_33_code 80 = .ok (.aload_n 0, 1) := by decide +kernel
theorem d_X_sweep_81 : decode prog_9_method_33_code 81 = .ok (.getfield 22, 3) := by decide +kernel
theorem d_X_sweep_84 : decode prog_9_method_33_code 84 = .ok (.iload_n 1, 1) := by decide +kernel
theorem d_X_sweep_85 : decode prog_9_method_33_code 85 = .ok (.aload_n 0, 1) := by decide +kernel
theorem d_X_sweep_86 : decode prog_9_method_33_code 86 = .ok (.getfield 22, 3) := by decide +kernel
theorem d_X_sweep_89 : decode prog_9_method_33_code 89 = .ok (.iload_n 1, 1) := by decide +kernel
theorem d_X_sweep_90 : decode prog_9_method_33_code 90 = .ok (.baload, 1) := by decide +kernel
theorem d_X_sweep_91 : decode prog_9_method_33_code 91 = .ok (.ifCond .eq 24, 3) := by decide +kernel
theorem d_X_sweep_94 : decode prog_9_method_33_code 94 = .ok (.aload_n 0, 1) := by decide +kernel
theorem d_X_sweep_95 : decode prog_9_method_33_code 95 = .ok (.iload_n 1, 1) := by decide +kernel
theorem d_X_sweep_96 : decode prog_9_method_33_code 96 = .ok (.invokevirtual 168, 3) := by decide +kernel
theorem d_X_sweep_99 : decode prog_9_method_33_code 99 = .ok (.ifCond .gt 12, 3) := by decide +kernel
theorem d_X_sweep_102 : decode prog_9_method_33_code 102 = .ok (.aload_n 0, 1) := by decide +kernel
theorem d_X_sweep_103 : decode prog_9_method_33_code 103 = .ok (.iconst 1, 1) := by decide +kernel
theorem d_X_sweep_104 : decode prog_9_method_33_code 104 = .ok (.iload_n 1, 1) := by decide +kernel
theorem d_X_sweep_105 : decode prog_9_method_33_code 105 = .ok (.invokevirtual 171, 3) := by decide +kernel
theorem d_X_sweep_108 : decode prog_9_method_33_code 108 = .ok (.ifCond .le 7, 3) := by decide +kernel
theorem d_X_sweep_111 : decode prog_9_method_33_code 111 = .ok (.iconst 1, 1) := by decide +kernel
theorem d_X_sweep_112 : decode prog_9_method_33_code 112 = .ok (.goto 4, 3) := by decide +kernel
theorem d_X_sweep_115 : decode prog_9_method_33_code 115 = .ok (.iconst 0, 1) := by decide +kernel
theorem d_X_sweep_116 : decode prog_9_method_33_code 116 = .ok (.bastore, 1) := by decide +kernel
theorem d_X_sweep_117 : decode prog_9_method_33_code 117 = .ok (.iinc 1 1, 3) := by decide +kernel
theorem d_X_sweep_120 : decode prog_9_method_33_code 120 = .ok (.goto (-46), 3) := by decide +kernel
theorem d_X_sweep_123 : decode prog_9_method_33_code 123 = .ok (.iconst 0, 1) := by decide +kernel
theorem d_X_sweep_124 : decode prog_9_method_33_code 124 = .ok (.istore_n 1, 1) := by decide +kernel
theorem d_X_sweep_125 : decode prog_9_method_33_code 125 = .ok (.iload_n 1, 1) := by decide +kernel
theorem d_X_sweep_126 : decode prog_9_method_33_code 126 = .ok (.iconst 2, 1) := by decide +kernel
theorem d_X_sweep_127 : decode prog_9_method_33_code 127 = .ok (.if_icmp .ge 47, 3) := by decide +kernel
theorem d_X_sweep_130 : decode prog_9_method_33_code 130 = .ok (.aload_n 0, 1) := by decide +kernel
theorem d_X_sweep_131 : decode prog_9_method_33_code 131 = .ok (.getfield 53, 3) := by decide +kernel
theorem d_X_sweep_134 : decode prog_9_method_33_code 134 = .ok (.iload_n 1, 1) := by decide +kernel
theorem d_X_sweep_135 : decode prog_9_method_33_code 135 = .ok (.aload_n 0, 1) := by decide +kernel
theorem d_X_sweep_136 : decode prog_9_method_33_code 136 = .ok (.getfield 53, 3) := by decide +kernel
theorem d_X_sweep_139 : decode prog_9_method_33_code 139 = .ok (.iload_n 1, 1) := by decide +kernel
theorem d_X_sweep_140 : decode prog_9_method_33_code 140 = .ok (.baload, 1) := by decide +kernel
theorem d_X_sweep_141 : decode prog_9_method_33_code 141 = .ok (.ifCond .eq 25, 3) := by decide +kernel
theorem d_X_sweep_144 : decode prog_9_method_33_code 144 = .ok (.aload_n 0, 1) := by decide +kernel
theorem d_X_sweep_145 : decode prog_9_method_33_code 145 = .ok (.iconst 2, 1) := by decide +kernel
theorem d_X_sweep_146 : decode prog_9_method_33_code 146 = .ok (.iload_n 1, 1) := by decide +kernel
theorem d_X_sweep_147 : decode prog_9_method_33_code 147 = .ok (.invokevirtual 171, 3) := by decide +kernel
theorem d_X_sweep_150 : decode prog_9_method_33_code 150 = .ok (.ifCond .gt 12, 3) := by decide +kernel
theorem d_X_sweep_153 : decode prog_9_method_33_code 153 = .ok (.aload_n 0, 1) := by decide +kernel
theorem d_X_sweep_154 : decode prog_9_method_33_code 154 = .ok (.iconst 3, 1) := by decide +kernel
theorem d_X_sweep_155 : decode prog_9_method_33_code 155 = .ok (.iload_n 1, 1) := by decide +kernel
theorem d_X_sweep_156 : decode prog_9_method_33_code 156 = .ok (.invokevirtual 171, 3) := by decide +kernel
theorem d_X_sweep_159 : decode prog_9_method_33_code 159 = .ok (.ifCond .le 7, 3) := by decide +kernel
theorem d_X_sweep_162 : decode prog_9_method_33_code 162 = .ok (.iconst 1, 1) := by decide +kernel
theorem d_X_sweep_163 : decode prog_9_method_33_code 163 = .ok (.goto 4, 3) := by decide +kernel
theorem d_X_sweep_166 : decode prog_9_method_33_code 166 = .ok (.iconst 0, 1) := by decide +kernel
theorem d_X_sweep_167 : decode prog_9_method_33_code 167 = .ok (.bastore, 1) := by decide +kernel
theorem d_X_sweep_168 : decode prog_9_method_33_code 168 = .ok (.iinc 1 1, 3) := by decide +kernel
theorem d_X_sweep_171 : decode prog_9_method_33_code 171 = .ok (.goto (-46), 3) := by decide +kernel
theorem d_X_sweep_174 : decode prog_9_method_33_code 174 = .ok (.return_, 1) := by decide +kernel
def k_X_sweep_0 (G : oG) (Post : oP) : oK := o_iconst 0 <| o_istore 1 <| o_jmp G m_X_sweep Post 2 [0, 1]
theorem s_X_sweep_0 {G : oG} {Post : oP} : oS G m_X_sweep Post 0 (k_X_sweep_0 G Post) := by
  unfold k_X_sweep_0
  refine so_iconst d_X_sweep_0 rfl ?_
  refine so_istore_n d_X_sweep_1 rfl (by decide) ?_
  exact so_jmp
def k_X_sweep_2 (G : oG) (Post : oP) : oK := o_iload 1 <| o_iconst 8 <| o_icmpge (o_iconst 0 <| o_istore 1 <| o_jmp G m_X_sweep Post 74 [0, 1]) (o_iconst 0 <| o_istore 2 <| o_iconst 0 <| o_istore 3 <| o_jmp G m_X_sweep Post 12 [0, 1, 2, 3])
theorem s_X_sweep_2 {G : oG} {Post : oP} : oS G m_X_sweep Post 2 (k_X_sweep_2 G Post) := by
  unfold k_X_sweep_2
  refine so_iload_n d_X_sweep_2 rfl ?_
  refine so_bipush d_X_sweep_3 rfl ?_
  refine so_icmpge d_X_sweep_5 (tgt := 72) (by decide) ?_ ?_
  · refine so_iconst d_X_sweep_72 rfl ?_
    refine so_istore_n d_X_sweep_73 rfl (by decide) ?_
    exact so_jmp
  · refine so_iconst d_X_sweep_8 rfl ?_
    refine so_istore_n d_X_sweep_9 rfl (by decide) ?_
    refine so_iconst d_X_sweep_10 rfl ?_
    refine so_istore_n d_X_sweep_11 rfl (by decide) ?_
    exact so_jmp
def k_X_sweep_12 (G : oG) (Post : oP) : oK := o_iload 3 <| o_iconst 15 <| o_icmpge (o_jmp G m_X_sweep Post 46 [0, 1, 2]) (o_iload 2 <| o_ifne (o_iconst 1 <| o_istore 2 <| o_iinc 3 1 <| o_jmp G m_X_sweep Post 12 [0, 1, 2, 3]) (o_aload 0 <| o_getf 7 18 <| o_iload 3 <| o_iald G <| o_iload 1 <| o_iconst 1 <| o_iadd <| o_icmpne (o_iconst 0 <| o_istore 2 <| o_iinc 3 1 <| o_jmp G m_X_sweep Post 12 [0, 1, 2, 3]) (o_iconst 1 <| o_istore 2 <| o_iinc 3 1 <| o_jmp G m_X_sweep Post 12 [0, 1, 2, 3])))
theorem s_X_sweep_12 {G : oG} {Post : oP} : oS G m_X_sweep Post 12 (k_X_sweep_12 G Post) := by
  unfold k_X_sweep_12
  refine so_iload_n d_X_sweep_12 rfl ?_
  refine so_bipush d_X_sweep_13 rfl ?_
  refine so_icmpge d_X_sweep_15 (tgt := 46) (by decide) ?_ ?_
  · exact so_jmp
  · refine so_iload_n d_X_sweep_18 rfl ?_
    refine so_ifne d_X_sweep_19 (tgt := 34) (by decide) ?_ ?_
    · refine so_iconst d_X_sweep_34 rfl ?_
      refine so_goto d_X_sweep_35 (tgt := 39) (by decide) ?_
      refine so_istore_n d_X_sweep_39 rfl (by decide) ?_
      refine so_iinc d_X_sweep_40 rfl (by decide) ?_
      refine so_goto d_X_sweep_43 (tgt := 12) (by decide) ?_
      exact so_jmp
    · refine so_aload_n d_X_sweep_22 rfl ?_
      refine so_getf cl_7 (k := 18) (by decide) w_580 d_X_sweep_23 ?_
      refine so_iload_n d_X_sweep_26 rfl ?_
      refine so_iald d_X_sweep_27 ?_
      refine so_iload_n d_X_sweep_28 rfl ?_
      refine so_iconst d_X_sweep_29 rfl ?_
      refine so_iadd d_X_sweep_30 ?_
      refine so_icmpne d_X_sweep_31 (tgt := 38) (by decide) ?_ ?_
      · refine so_iconst d_X_sweep_38 rfl ?_
        refine so_istore_n d_X_sweep_39 rfl (by decide) ?_
        refine so_iinc d_X_sweep_40 rfl (by decide) ?_
        refine so_goto d_X_sweep_43 (tgt := 12) (by decide) ?_
        exact so_jmp
      · refine so_iconst d_X_sweep_34 rfl ?_
        refine so_goto d_X_sweep_35 (tgt := 39) (by decide) ?_
        refine so_istore_n d_X_sweep_39 rfl (by decide) ?_
        refine so_iinc d_X_sweep_40 rfl (by decide) ?_
        refine so_goto d_X_sweep_43 (tgt := 12) (by decide) ?_
        exact so_jmp
def k_X_sweep_46 (G : oG) (Post : oP) : oK := o_aload 0 <| o_getf 7 11 <| o_iload 1 <| o_iload 2 <| o_ifeq (o_iconst 0 <| o_iast <| o_iinc 1 1 <| o_jmp G m_X_sweep Post 2 [0, 1]) (o_aload 0 <| o_getf 7 11 <| o_iload 1 <| o_iald G <| o_iast <| o_iinc 1 1 <| o_jmp G m_X_sweep Post 2 [0, 1])
theorem s_X_sweep_46 {G : oG} {Post : oP} : oS G m_X_sweep Post 46 (k_X_sweep_46 G Post) := by
  unfold k_X_sweep_46
  refine so_aload_n d_X_sweep_46 rfl ?_
  refine so_getf cl_7 (k := 11) (by decide) w_573 d_X_sweep_47 ?_
  refine so_iload_n d_X_sweep_50 rfl ?_
  refine so_iload_n d_X_sweep_51 rfl ?_
  refine so_ifeq d_X_sweep_52 (tgt := 64) (by decide) ?_ ?_
  · refine so_iconst d_X_sweep_64 rfl ?_
    refine so_iast d_X_sweep_65 ?_
    refine so_iinc d_X_sweep_66 rfl (by decide) ?_
    refine so_goto d_X_sweep_69 (tgt := 2) (by decide) ?_
    exact so_jmp
  · refine so_aload_n d_X_sweep_55 rfl ?_
    refine so_getf cl_7 (k := 11) (by decide) w_573 d_X_sweep_56 ?_
    refine so_iload_n d_X_sweep_59 rfl ?_
    refine so_iald d_X_sweep_60 ?_
    refine so_goto d_X_sweep_61 (tgt := 65) (by decide) ?_
    refine so_iast d_X_sweep_65 ?_
    refine so_iinc d_X_sweep_66 rfl (by decide) ?_
    refine so_goto d_X_sweep_69 (tgt := 2) (by decide) ?_
    exact so_jmp
def k_X_sweep_74 (G : oG) (Post : oP) : oK := o_iload 1 <| o_iconst 6 <| o_icmpge (o_iconst 0 <| o_istore 1 <| o_jmp G m_X_sweep Post 125 [0, 1]) (o_aload 0 <| o_getf 7 5 <| o_iload 1 <| o_aload 0 <| o_getf 7 5 <| o_iload 1 <| o_zald <| o_ifeq (o_iconst 0 <| o_zast <| o_iinc 1 1 <| o_jmp G m_X_sweep Post 74 [0, 1]) (o_aload 0 <| o_iload 1 <| o_callV G 7 m_X_namesOf 1 <| o_jmp G m_X_sweep Post 99 [0, 1]))
theorem s_X_sweep_74 {G : oG} {Post : oP} : oS G m_X_sweep Post 74 (k_X_sweep_74 G Post) := by
  unfold k_X_sweep_74
  refine so_iload_n d_X_sweep_74 rfl ?_
  refine so_bipush d_X_sweep_75 rfl ?_
  refine so_icmpge d_X_sweep_77 (tgt := 123) (by decide) ?_ ?_
  · refine so_iconst d_X_sweep_123 rfl ?_
    refine so_istore_n d_X_sweep_124 rfl (by decide) ?_
    exact so_jmp
  · refine so_aload_n d_X_sweep_80 rfl ?_
    refine so_getf cl_7 (k := 5) (by decide) w_567 d_X_sweep_81 ?_
    refine so_iload_n d_X_sweep_84 rfl ?_
    refine so_aload_n d_X_sweep_85 rfl ?_
    refine so_getf cl_7 (k := 5) (by decide) w_567 d_X_sweep_86 ?_
    refine so_iload_n d_X_sweep_89 rfl ?_
    refine so_zald d_X_sweep_90 ?_
    refine so_ifeq d_X_sweep_91 (tgt := 115) (by decide) ?_ ?_
    · refine so_iconst d_X_sweep_115 rfl ?_
      refine so_zast d_X_sweep_116 ?_
      refine so_iinc d_X_sweep_117 rfl (by decide) ?_
      refine so_goto d_X_sweep_120 (tgt := 74) (by decide) ?_
      exact so_jmp
    · refine so_aload_n d_X_sweep_94 rfl ?_
      refine so_iload_n d_X_sweep_95 rfl ?_
      refine so_callV cl_7 f_X_namesOf w_815 w_60 w_813 (by decide) (by decide) d_X_sweep_96 ?_
      exact so_jmp
def k_X_sweep_99 (G : oG) (Post : oP) : oK := o_ifgt (o_iconst 1 <| o_zast <| o_iinc 1 1 <| o_jmp G m_X_sweep Post 74 [0, 1]) (o_aload 0 <| o_iconst 1 <| o_iload 1 <| o_callV G 7 m_X_opensOf 2 <| o_jmp G m_X_sweep Post 108 [0, 1])
theorem s_X_sweep_99 {G : oG} {Post : oP} : oS G m_X_sweep Post 99 (k_X_sweep_99 G Post) := by
  unfold k_X_sweep_99
  refine so_ifgt d_X_sweep_99 (tgt := 111) (by decide) ?_ ?_
  · refine so_iconst d_X_sweep_111 rfl ?_
    refine so_goto d_X_sweep_112 (tgt := 116) (by decide) ?_
    refine so_zast d_X_sweep_116 ?_
    refine so_iinc d_X_sweep_117 rfl (by decide) ?_
    refine so_goto d_X_sweep_120 (tgt := 74) (by decide) ?_
    exact so_jmp
  · refine so_aload_n d_X_sweep_102 rfl ?_
    refine so_iconst d_X_sweep_103 rfl ?_
    refine so_iload_n d_X_sweep_104 rfl ?_
    refine so_callV cl_7 f_X_opensOf w_775 w_50 w_773 (by decide) (by decide) d_X_sweep_105 ?_
    exact so_jmp
def k_X_sweep_108 (G : oG) (Post : oP) : oK := o_ifle (o_iconst 0 <| o_zast <| o_iinc 1 1 <| o_jmp G m_X_sweep Post 74 [0, 1]) (o_iconst 1 <| o_zast <| o_iinc 1 1 <| o_jmp G m_X_sweep Post 74 [0, 1])
theorem s_X_sweep_108 {G : oG} {Post : oP} : oS G m_X_sweep Post 108 (k_X_sweep_108 G Post) := by
  unfold k_X_sweep_108
  refine so_ifle d_X_sweep_108 (tgt := 115) (by decide) ?_ ?_
  · refine so_iconst d_X_sweep_115 rfl ?_
    refine so_zast d_X_sweep_116 ?_
    refine so_iinc d_X_sweep_117 rfl (by decide) ?_
    refine so_goto d_X_sweep_120 (tgt := 74) (by decide) ?_
    exact so_jmp
  · refine so_iconst d_X_sweep_111 rfl ?_
    refine so_goto d_X_sweep_112 (tgt := 116) (by decide) ?_
    refine so_zast d_X_sweep_116 ?_
    refine so_iinc d_X_sweep_117 rfl (by decide) ?_
    refine so_goto d_X_sweep_120 (tgt := 74) (by decide) ?_
    exact so_jmp
def k_X_sweep_125 (G : oG) (Post : oP) : oK := o_iload 1 <| o_iconst 2 <| o_icmpge (o_vret Post) (o_aload 0 <| o_getf 7 15 <| o_iload 1 <| o_aload 0 <| o_getf 7 15 <| o_iload 1 <| o_zald <| o_ifeq (o_iconst 0 <| o_zast <| o_iinc 1 1 <| o_jmp G m_X_sweep Post 125 [0, 1]) (o_aload 0 <| o_iconst 2 <| o_iload 1 <| o_callV G 7 m_X_opensOf 2 <| o_jmp G m_X_sweep Post 150 [0, 1]))
theorem s_X_sweep_125 {G : oG} {Post : oP} : oS G m_X_sweep Post 125 (k_X_sweep_125 G Post) := by
  unfold k_X_sweep_125
  refine so_iload_n d_X_sweep_125 rfl ?_
  refine so_iconst d_X_sweep_126 rfl ?_
  refine so_icmpge d_X_sweep_127 (tgt := 174) (by decide) ?_ ?_
  · exact so_vret d_X_sweep_174 rfl
  · refine so_aload_n d_X_sweep_130 rfl ?_
    refine so_getf cl_7 (k := 15) (by decide) w_577 d_X_sweep_131 ?_
    refine so_iload_n d_X_sweep_134 rfl ?_
    refine so_aload_n d_X_sweep_135 rfl ?_
    refine so_getf cl_7 (k := 15) (by decide) w_577 d_X_sweep_136 ?_
    refine so_iload_n d_X_sweep_139 rfl ?_
    refine so_zald d_X_sweep_140 ?_
    refine so_ifeq d_X_sweep_141 (tgt := 166) (by decide) ?_ ?_
    · refine so_iconst d_X_sweep_166 rfl ?_
      refine so_zast d_X_sweep_167 ?_
      refine so_iinc d_X_sweep_168 rfl (by decide) ?_
      refine so_goto d_X_sweep_171 (tgt := 125) (by decide) ?_
      exact so_jmp
    · refine so_aload_n d_X_sweep_144 rfl ?_
      refine so_iconst d_X_sweep_145 rfl ?_
      refine so_iload_n d_X_sweep_146 rfl ?_
      refine so_callV cl_7 f_X_opensOf w_775 w_50 w_773 (by decide) (by decide) d_X_sweep_147 ?_
      exact so_jmp
def k_X_sweep_150 (G : oG) (Post : oP) : oK := o_ifgt (o_iconst 1 <| o_zast <| o_iinc 1 1 <| o_jmp G m_X_sweep Post 125 [0, 1]) (o_aload 0 <| o_iconst 3 <| o_iload 1 <| o_callV G 7 m_X_opensOf 2 <| o_jmp G m_X_sweep Post 159 [0, 1])
theorem s_X_sweep_150 {G : oG} {Post : oP} : oS G m_X_sweep Post 150 (k_X_sweep_150 G Post) := by
  unfold k_X_sweep_150
  refine so_ifgt d_X_sweep_150 (tgt := 162) (by decide) ?_ ?_
  · refine so_iconst d_X_sweep_162 rfl ?_
    refine so_goto d_X_sweep_163 (tgt := 167) (by decide) ?_
    refine so_zast d_X_sweep_167 ?_
    refine so_iinc d_X_sweep_168 rfl (by decide) ?_
    refine so_goto d_X_sweep_171 (tgt := 125) (by decide) ?_
    exact so_jmp
  · refine so_aload_n d_X_sweep_153 rfl ?_
    refine so_iconst d_X_sweep_154 rfl ?_
    refine so_iload_n d_X_sweep_155 rfl ?_
    refine so_callV cl_7 f_X_opensOf w_775 w_50 w_773 (by decide) (by decide) d_X_sweep_156 ?_
    exact so_jmp
def k_X_sweep_159 (G : oG) (Post : oP) : oK := o_ifle (o_iconst 0 <| o_zast <| o_iinc 1 1 <| o_jmp G m_X_sweep Post 125 [0, 1]) (o_iconst 1 <| o_zast <| o_iinc 1 1 <| o_jmp G m_X_sweep Post 125 [0, 1])
theorem s_X_sweep_159 {G : oG} {Post : oP} : oS G m_X_sweep Post 159 (k_X_sweep_159 G Post) := by
  unfold k_X_sweep_159
  refine so_ifle d_X_sweep_159 (tgt := 166) (by decide) ?_ ?_
  · refine so_iconst d_X_sweep_166 rfl ?_
    refine so_zast d_X_sweep_167 ?_
    refine so_iinc d_X_sweep_168 rfl (by decide) ?_
    refine so_goto d_X_sweep_171 (tgt := 125) (by decide) ?_
    exact so_jmp
  · refine so_iconst d_X_sweep_162 rfl ?_
    refine so_goto d_X_sweep_163 (tgt := 167) (by decide) ?_
    refine so_zast d_X_sweep_167 ?_
    refine so_iinc d_X_sweep_168 rfl (by decide) ?_
    refine so_goto d_X_sweep_171 (tgt := 125) (by decide) ?_
    exact so_jmp
theorem d_X_trap_0 : decode prog_9_method_13_code 0 = .ok (.iload_n 1, 1) := by decide +kernel
theorem d_X_trap_1 : decode prog_9_method_13_code 1 = .ok (.invokestatic 77, 3) := by decide +kernel
theorem d_X_trap_4 : decode prog_9_method_13_code 4 = .ok (.ifCond .ne 5, 3) := by decide +kernel
theorem d_X_trap_7 : decode prog_9_method_13_code 7 = .ok (.iconst (-1), 1) := by decide +kernel
theorem d_X_trap_8 : decode prog_9_method_13_code 8 = .ok (.ireturn, 1) := by decide +kernel
theorem d_X_trap_9 : decode prog_9_method_13_code 9 = .ok (.aload_n 0, 1) := by decide +kernel
theorem d_X_trap_10 : decode prog_9_method_13_code 10 = .ok (.iload_n 1, 1) := by decide +kernel
theorem d_X_trap_11 : decode prog_9_method_13_code 11 = .ok (.putfield 92, 3) := by decide +kernel
theorem d_X_trap_14 : decode prog_9_method_13_code 14 = .ok (.aload_n 0, 1) := by decide +kernel
theorem d_X_trap_15 : decode prog_9_method_13_code 15 = .ok (.aload_n 0, 1) := by decide +kernel
theorem d_X_trap_16 : decode prog_9_method_13_code 16 = .ok (.getfield 19, 3) := by decide +kernel
theorem d_X_trap_19 : decode prog_9_method_13_code 19 = .ok (.iconst 3, 1) := by decide +kernel
theorem d_X_trap_20 : decode prog_9_method_13_code 20 = .ok (.iload_n 1, 1) := by decide +kernel
theorem d_X_trap_21 : decode prog_9_method_13_code 21 = .ok (.imul, 1) := by decide +kernel
theorem d_X_trap_22 : decode prog_9_method_13_code 22 = .ok (.iaload, 1) := by decide +kernel
theorem d_X_trap_23 : decode prog_9_method_13_code 23 = .ok (.putfield 96, 3) := by decide +kernel
theorem d_X_trap_26 : decode prog_9_method_13_code 26 = .ok (.aload_n 0, 1) := by decide +kernel
theorem d_X_trap_27 : decode prog_9_method_13_code 27 = .ok (.aload_n 0, 1) := by decide +kernel
theorem d_X_trap_28 : decode prog_9_method_13_code 28 = .ok (.getfield 19, 3) := by decide +kernel
theorem d_X_trap_31 : decode prog_9_method_13_code 31 = .ok (.iconst 3, 1) := by decide +kernel
theorem d_X_trap_32 : decode prog_9_method_13_code 32 = .ok (.iload_n 1, 1) := by decide +kernel
theorem d_X_trap_33 : decode prog_9_method_13_code 33 = .ok (.imul, 1) := by decide +kernel
theorem d_X_trap_34 : decode prog_9_method_13_code 34 = .ok (.iconst 1, 1) := by decide +kernel
theorem d_X_trap_35 : decode prog_9_method_13_code 35 = .ok (.iadd, 1) := by decide +kernel
theorem d_X_trap_36 : decode prog_9_method_13_code 36 = .ok (.iaload, 1) := by decide +kernel
theorem d_X_trap_37 : decode prog_9_method_13_code 37 = .ok (.putfield 99, 3) := by decide +kernel
theorem d_X_trap_40 : decode prog_9_method_13_code 40 = .ok (.aload_n 0, 1) := by decide +kernel
theorem d_X_trap_41 : decode prog_9_method_13_code 41 = .ok (.aload_n 0, 1) := by decide +kernel
theorem d_X_trap_42 : decode prog_9_method_13_code 42 = .ok (.getfield 19, 3) := by decide +kernel
theorem d_X_trap_45 : decode prog_9_method_13_code 45 = .ok (.iconst 3, 1) := by decide +kernel
theorem d_X_trap_46 : decode prog_9_method_13_code 46 = .ok (.iload_n 1, 1) := by decide +kernel
theorem d_X_trap_47 : decode prog_9_method_13_code 47 = .ok (.imul, 1) := by decide +kernel
theorem d_X_trap_48 : decode prog_9_method_13_code 48 = .ok (.iconst 2, 1) := by decide +kernel
theorem d_X_trap_49 : decode prog_9_method_13_code 49 = .ok (.iadd, 1) := by decide +kernel
theorem d_X_trap_50 : decode prog_9_method_13_code 50 = .ok (.iaload, 1) := by decide +kernel
theorem d_X_trap_51 : decode prog_9_method_13_code 51 = .ok (.putfield 102, 3) := by decide +kernel
theorem d_X_trap_54 : decode prog_9_method_13_code 54 = .ok (.iload_n 2, 1) := by decide +kernel
theorem d_X_trap_55 : decode prog_9_method_13_code 55 = .ok (.bipush 9, 2) := by decide +kernel
theorem d_X_trap_57 : decode prog_9_method_13_code 57 = .ok (.if_icmp .ge 11, 3) := by decide +kernel
theorem d_X_trap_60 : decode prog_9_method_13_code 60 = .ok (.aload_n 0, 1) := by decide +kernel
theorem d_X_trap_61 : decode prog_9_method_13_code 61 = .ok (.iload_n 2, 1) := by decide +kernel
theorem d_X_trap_62 : decode prog_9_method_13_code 62 = .ok (.invokevirtual 105, 3) := by decide +kernel
theorem d_X_trap_65 : decode prog_9_method_13_code 65 = .ok (.goto 8, 3) := by decide +kernel
theorem d_X_trap_68 : decode prog_9_method_13_code 68 = .ok (.aload_n 0, 1) := by decide +kernel
theorem d_X_trap_69 : decode prog_9_method_13_code 69 = .ok (.iload_n 2, 1) := by decide +kernel
theorem d_X_trap_70 : decode prog_9_method_13_code 70 = .ok (.invokevirtual 109, 3) := by decide +kernel
theorem d_X_trap_73 : decode prog_9_method_13_code 73 = .ok (.istore_n 3, 1) := by decide +kernel
theorem d_X_trap_74 : decode prog_9_method_13_code 74 = .ok (.aload_n 0, 1) := by decide +kernel
theorem d_X_trap_75 : decode prog_9_method_13_code 75 = .ok (.invokevirtual 112, 3) := by decide +kernel
theorem d_X_trap_78 : decode prog_9_method_13_code 78 = .ok (.aload_n 0, 1) := by decide +kernel
theorem d_X_trap_79 : decode prog_9_method_13_code 79 = .ok (.getfield 19, 3) := by decide +kernel
theorem d_X_trap_82 : decode prog_9_method_13_code 82 = .ok (.iconst 3, 1) := by decide +kernel
theorem d_X_trap_83 : decode prog_9_method_13_code 83 = .ok (.iload_n 1, 1) := by decide +kernel
theorem d_X_trap_84 : decode prog_9_method_13_code 84 = .ok (.imul, 1) := by decide +kernel
theorem d_X_trap_85 : decode prog_9_method_13_code 85 = .ok (.iload_n 3, 1) := by decide +kernel
theorem d_X_trap_86 : decode prog_9_method_13_code 86 = .ok (.iastore, 1) := by decide +kernel
theorem d_X_trap_87 : decode prog_9_method_13_code 87 = .ok (.aload_n 0, 1) := by decide +kernel
theorem d_X_trap_88 : decode prog_9_method_13_code 88 = .ok (.dup, 1) := by decide +kernel
theorem d_X_trap_89 : decode prog_9_method_13_code 89 = .ok (.getfield 115, 3) := by decide +kernel
theorem d_X_trap_92 : decode prog_9_method_13_code 92 = .ok (.iconst 1, 1) := by decide +kernel
theorem d_X_trap_93 : decode prog_9_method_13_code 93 = .ok (.iadd, 1) := by decide +kernel
theorem d_X_trap_94 : decode prog_9_method_13_code 94 = .ok (.putfield 115, 3) := by decide +kernel
theorem d_X_trap_97 : decode prog_9_method_13_code 97 = .ok (.iload_n 3, 1) := by decide +kernel
theorem d_X_trap_98 : decode prog_9_method_13_code 98 = .ok (.ireturn, 1) := by decide +kernel
def k_X_trap_0 (G : oG) (Post : oP) : oK := o_iload 1 <| o_callS G m_X_isProcess 1 <| o_jmp G m_X_trap Post 4 [0, 1, 2]
theorem s_X_trap_0 {G : oG} {Post : oP} : oS G m_X_trap Post 0 (k_X_trap_0 G Post) := by
  unfold k_X_trap_0
  refine so_iload_n d_X_trap_0 rfl ?_
  refine so_callS f_X_isProcess w_656 w_655 (by decide) (by decide) d_X_trap_1 ?_
  exact so_jmp
def k_X_trap_4 (G : oG) (Post : oP) : oK := o_ifne (o_jmp G m_X_trap Post 9 [0, 1, 2]) (o_iconst (-1) <| o_iret Post)
theorem s_X_trap_4 {G : oG} {Post : oP} : oS G m_X_trap Post 4 (k_X_trap_4 G Post) := by
  unfold k_X_trap_4
  refine so_ifne d_X_trap_4 (tgt := 9) (by decide) ?_ ?_
  · exact so_jmp
  · refine so_iconst d_X_trap_7 rfl ?_
    exact so_iret d_X_trap_8 rfl
def k_X_trap_9 (G : oG) (Post : oP) : oK := o_aload 0 <| o_iload 1 <| o_putfI 7 19 <| o_aload 0 <| o_aload 0 <| o_getf 7 3 <| o_iconst 3 <| o_iload 1 <| o_imul <| o_iald G <| o_putfI 7 20 <| o_aload 0 <| o_aload 0 <| o_getf 7 3 <| o_iconst 3 <| o_iload 1 <| o_imul <| o_iconst 1 <| o_iadd <| o_iald G <| o_putfI 7 21 <| o_aload 0 <| o_aload 0 <| o_getf 7 3 <| o_iconst 3 <| o_iload 1 <| o_imul <| o_iconst 2 <| o_iadd <| o_iald G <| o_putfI 7 22 <| o_iload 2 <| o_iconst 9 <| o_icmpge (o_aload 0 <| o_iload 2 <| o_callV G 7 m_X_second 1 <| o_jmp G m_X_trap Post 73 [0, 1]) (o_aload 0 <| o_iload 2 <| o_callV G 7 m_X_first 1 <| o_jmp G m_X_trap Post 65 [0, 1])
theorem s_X_trap_9 {G : oG} {Post : oP} : oS G m_X_trap Post 9 (k_X_trap_9 G Post) := by
  unfold k_X_trap_9
  refine so_aload_n d_X_trap_9 rfl ?_
  refine so_iload_n d_X_trap_10 rfl ?_
  refine so_putfI cl_7 (k := 19) (by decide) rfl rfl w_581 d_X_trap_11 ?_
  refine so_aload_n d_X_trap_14 rfl ?_
  refine so_aload_n d_X_trap_15 rfl ?_
  refine so_getf cl_7 (k := 3) (by decide) w_565 d_X_trap_16 ?_
  refine so_iconst d_X_trap_19 rfl ?_
  refine so_iload_n d_X_trap_20 rfl ?_
  refine so_imul d_X_trap_21 ?_
  refine so_iald d_X_trap_22 ?_
  refine so_putfI cl_7 (k := 20) (by decide) rfl rfl w_582 d_X_trap_23 ?_
  refine so_aload_n d_X_trap_26 rfl ?_
  refine so_aload_n d_X_trap_27 rfl ?_
  refine so_getf cl_7 (k := 3) (by decide) w_565 d_X_trap_28 ?_
  refine so_iconst d_X_trap_31 rfl ?_
  refine so_iload_n d_X_trap_32 rfl ?_
  refine so_imul d_X_trap_33 ?_
  refine so_iconst d_X_trap_34 rfl ?_
  refine so_iadd d_X_trap_35 ?_
  refine so_iald d_X_trap_36 ?_
  refine so_putfI cl_7 (k := 21) (by decide) rfl rfl w_583 d_X_trap_37 ?_
  refine so_aload_n d_X_trap_40 rfl ?_
  refine so_aload_n d_X_trap_41 rfl ?_
  refine so_getf cl_7 (k := 3) (by decide) w_565 d_X_trap_42 ?_
  refine so_iconst d_X_trap_45 rfl ?_
  refine so_iload_n d_X_trap_46 rfl ?_
  refine so_imul d_X_trap_47 ?_
  refine so_iconst d_X_trap_48 rfl ?_
  refine so_iadd d_X_trap_49 ?_
  refine so_iald d_X_trap_50 ?_
  refine so_putfI cl_7 (k := 22) (by decide) rfl rfl w_584 d_X_trap_51 ?_
  refine so_iload_n d_X_trap_54 rfl ?_
  refine so_bipush d_X_trap_55 rfl ?_
  refine so_icmpge d_X_trap_57 (tgt := 68) (by decide) ?_ ?_
  · refine so_aload_n d_X_trap_68 rfl ?_
    refine so_iload_n d_X_trap_69 rfl ?_
    refine so_callV cl_7 f_X_second w_799 w_56 w_797 (by decide) (by decide) d_X_trap_70 ?_
    exact so_jmp
  · refine so_aload_n d_X_trap_60 rfl ?_
    refine so_iload_n d_X_trap_61 rfl ?_
    refine so_callV cl_7 f_X_first w_695 w_30 w_693 (by decide) (by decide) d_X_trap_62 ?_
    exact so_jmp
def k_X_trap_65 (G : oG) (Post : oP) : oK := o_jmp G m_X_trap Post 73 [0, 1]
theorem s_X_trap_65 {G : oG} {Post : oP} : oS G m_X_trap Post 65 (k_X_trap_65 G Post) := by
  unfold k_X_trap_65
  refine so_goto d_X_trap_65 (tgt := 73) (by decide) ?_
  exact so_jmp
def k_X_trap_73 (G : oG) (Post : oP) : oK := o_istore 3 <| o_aload 0 <| o_callV G 7 m_X_sweep 0 <| o_jmp G m_X_trap Post 78 [0, 1, 3]
theorem s_X_trap_73 {G : oG} {Post : oP} : oS G m_X_trap Post 73 (k_X_trap_73 G Post) := by
  unfold k_X_trap_73
  refine so_istore_n d_X_trap_73 rfl (by decide) ?_
  refine so_aload_n d_X_trap_74 rfl ?_
  refine so_callV cl_7 f_X_sweep w_851 w_67 w_849 (by decide) (by decide) d_X_trap_75 ?_
  exact so_jmp
def k_X_trap_78 (G : oG) (Post : oP) : oK := o_aload 0 <| o_getf 7 3 <| o_iconst 3 <| o_iload 1 <| o_imul <| o_iload 3 <| o_iast <| o_aload 0 <| o_dup <| o_getf 7 4 <| o_iconst 1 <| o_iadd <| o_putfI 7 4 <| o_iload 3 <| o_iret Post
theorem s_X_trap_78 {G : oG} {Post : oP} : oS G m_X_trap Post 78 (k_X_trap_78 G Post) := by
  unfold k_X_trap_78
  refine so_aload_n d_X_trap_78 rfl ?_
  refine so_getf cl_7 (k := 3) (by decide) w_565 d_X_trap_79 ?_
  refine so_iconst d_X_trap_82 rfl ?_
  refine so_iload_n d_X_trap_83 rfl ?_
  refine so_imul d_X_trap_84 ?_
  refine so_iload_n d_X_trap_85 rfl ?_
  refine so_iast d_X_trap_86 ?_
  refine so_aload_n d_X_trap_87 rfl ?_
  refine so_dup d_X_trap_88 ?_
  refine so_getf cl_7 (k := 4) (by decide) w_566 d_X_trap_89 ?_
  refine so_iconst d_X_trap_92 rfl ?_
  refine so_iadd d_X_trap_93 ?_
  refine so_putfI cl_7 (k := 4) (by decide) rfl rfl w_566 d_X_trap_94 ?_
  refine so_iload_n d_X_trap_97 rfl ?_
  exact so_iret d_X_trap_98 rfl
