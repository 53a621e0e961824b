/-! code in blocks, by program -/
theorem d_X_take_0 : decode prog_9_method_19_code 0 = .ok (.iconst 0, 1) := by decide +kernel
theorem d_X_take_1 : decode prog_9_method_19_code 1 = .ok (.istore_n 1, 1) := by decide +kernel
theorem d_X_take_2 : decode prog_9_method_19_code 2 = .ok (.iload_n 1, 1) := by decide +kernel
theorem d_X_take_3 : decode prog_9_method_19_code 3 = .ok (.aload_n 0, 1) := by decide +kernel
theorem d_X_take_4 : decode prog_9_method_19_code 4 = .ok (.getfield 162, 3) := by decide +kernel
theorem d_X_take_7 : decode prog_9_method_19_code 7 = .ok (.if_icmp .ge 26, 3) := by decide +kernel
theorem d_X_take_10 : decode prog_9_method_19_code 10 = .ok (.aload_n 0, 1) := by decide +kernel
theorem d_X_take_11 : decode prog_9_method_19_code 11 = .ok (.getfield 68, 3) := by decide +kernel
theorem d_X_take_14 : decode prog_9_method_19_code 14 = .ok (.iload_n 1, 1) := by decide +kernel
theorem d_X_take_15 : decode prog_9_method_19_code 15 = .ok (.aload_n 0, 1) := by decide +kernel
theorem d_X_take_16 : decode prog_9_method_19_code 16 = .ok (.getfield 7, 3) := by decide +kernel
theorem d_X_take_19 : decode prog_9_method_19_code 19 = .ok (.aload_n 0, 1) := by decide +kernel
theorem d_X_take_20 : decode prog_9_method_19_code 20 = .ok (.getfield 65, 3) := by decide +kernel
theorem d_X_take_23 : decode prog_9_method_19_code 23 = .ok (.iload_n 1, 1) := by decide +kernel
theorem d_X_take_24 : decode prog_9_method_19_code 24 = .ok (.iaload, 1) := by decide +kernel
theorem d_X_take_25 : decode prog_9_method_19_code 25 = .ok (.iaload, 1) := by decide +kernel
theorem d_X_take_26 : decode prog_9_method_19_code 26 = .ok (.iastore, 1) := by decide +kernel
theorem d_X_take_27 : decode prog_9_method_19_code 27 = .ok (.iinc 1 1, 3) := by decide +kernel
theorem d_X_take_30 : decode prog_9_method_19_code 30 = .ok (.goto (-28), 3) := by decide +kernel
theorem d_X_take_33 : decode prog_9_method_19_code 33 = .ok (.return_, 1) := by decide +kernel
def k_X_take_0 (G : oG) (Post : oP) : oK := o_iconst 0 <| o_istore 1 <| o_jmp G m_X_take Post 2 [0, 1]
theorem s_X_take_0 {G : oG} {Post : oP} : oS G m_X_take Post 0 (k_X_take_0 G Post) := by
  unfold k_X_take_0
  refine so_iconst d_X_take_0 rfl ?_
  refine so_istore_n d_X_take_1 rfl (by decide) ?_
  exact so_jmp
def k_X_take_2 (G : oG) (Post : oP) : oK := o_iload 1 <| o_aload 0 <| o_getf 7 23 <| o_icmpge (o_vret Post) (o_aload 0 <| o_getf 7 25 <| o_iload 1 <| o_aload 0 <| o_getf 7 0 <| o_aload 0 <| o_getf 7 24 <| o_iload 1 <| o_iald G <| o_iald G <| o_iast <| o_iinc 1 1 <| o_jmp G m_X_take Post 2 [0, 1])
theorem s_X_take_2 {G : oG} {Post : oP} : oS G m_X_take Post 2 (k_X_take_2 G Post) := by
  unfold k_X_take_2
  refine so_iload_n d_X_take_2 rfl ?_
  refine so_aload_n d_X_take_3 rfl ?_
  refine so_getf cl_7 (k := 23) (by decide) w_585 d_X_take_4 ?_
  refine so_icmpge d_X_take_7 (tgt := 33) (by decide) ?_ ?_
  · exact so_vret d_X_take_33 rfl
  · refine so_aload_n d_X_take_10 rfl ?_
    refine so_getf cl_7 (k := 25) (by decide) w_587 d_X_take_11 ?_
    refine so_iload_n d_X_take_14 rfl ?_
    refine so_aload_n d_X_take_15 rfl ?_
    refine so_getf cl_7 (k := 0) (by decide) w_562 d_X_take_16 ?_
    refine so_aload_n d_X_take_19 rfl ?_
    refine so_getf cl_7 (k := 24) (by decide) w_586 d_X_take_20 ?_
    refine so_iload_n d_X_take_23 rfl ?_
    refine so_iald d_X_take_24 ?_
    refine so_iald d_X_take_25 ?_
    refine so_iast d_X_take_26 ?_
    refine so_iinc d_X_take_27 rfl (by decide) ?_
    refine so_goto d_X_take_30 (tgt := 2) (by decide) ?_
    exact so_jmp
theorem d_X_gather_0 : decode prog_9_method_39_code 0 = .ok (.iload_n 1, 1) := by decide +kernel
theorem d_X_gather_1 : decode prog_9_method_39_code 1 = .ok (.ifCond .eq 7, 3) := by decide +kernel
theorem d_X_gather_4 : decode prog_9_method_39_code 4 = .ok (.iconst 1, 1) := by decide +kernel
theorem d_X_gather_5 : decode prog_9_method_39_code 5 = .ok (.goto 4, 3) := by decide +kernel
theorem d_X_gather_8 : decode prog_9_method_39_code 8 = .ok (.iconst 2, 1) := by decide +kernel
theorem d_X_gather_9 : decode prog_9_method_39_code 9 = .ok (.istore_n 3, 1) := by decide +kernel
theorem d_X_gather_10 : decode prog_9_method_39_code 10 = .ok (.aload_n 0, 1) := by decide +kernel
theorem d_X_gather_11 : decode prog_9_method_39_code 11 = .ok (.iconst 0, 1) := by decide +kernel
theorem d_X_gather_12 : decode prog_9_method_39_code 12 = .ok (.putfield 162, 3) := by decide +kernel
theorem d_X_gather_15 : decode prog_9_method_39_code 15 = .ok (.iload_n 2, 1) := by decide +kernel
theorem d_X_gather_16 : decode prog_9_method_39_code 16 = .ok (.ifCond .ne 17, 3) := by decide +kernel
theorem d_X_gather_19 : decode prog_9_method_39_code 19 = .ok (.aload_n 0, 1) := by decide +kernel
theorem d_X_gather_20 : decode prog_9_method_39_code 20 = .ok (.aload_n 0, 1) := by decide +kernel
theorem d_X_gather_21 : decode prog_9_method_39_code 21 = .ok (.getfield 99, 3) := by decide +kernel
theorem d_X_gather_24 : decode prog_9_method_39_code 24 = .ok (.aload_n 0, 1) := by decide +kernel
theorem d_X_gather_25 : decode prog_9_method_39_code 25 = .ok (.getfield 102, 3) := by decide +kernel
theorem d_X_gather_28 : decode prog_9_method_39_code 28 = .ok (.iload_n 3, 1) := by decide +kernel
theorem d_X_gather_29 : decode prog_9_method_39_code 29 = .ok (.invokevirtual 203, 3) := by decide +kernel
theorem d_X_gather_32 : decode prog_9_method_39_code 32 = .ok (.ireturn, 1) := by decide +kernel
theorem d_X_gather_33 : decode prog_9_method_39_code 33 = .ok (.aload_n 0, 1) := by decide +kernel
theorem d_X_gather_34 : decode prog_9_method_39_code 34 = .ok (.aload_n 0, 1) := by decide +kernel
theorem d_X_gather_35 : decode prog_9_method_39_code 35 = .ok (.getfield 99, 3) := by decide +kernel
theorem d_X_gather_38 : decode prog_9_method_39_code 38 = .ok (.iconst 2, 1) := by decide +kernel
theorem d_X_gather_39 : decode prog_9_method_39_code 39 = .ok (.aload_n 0, 1) := by decide +kernel
theorem d_X_gather_40 : decode prog_9_method_39_code 40 = .ok (.getfield 102, 3) := by decide +kernel
theorem d_X_gather_43 : decode prog_9_method_39_code 43 = .ok (.imul, 1) := by decide +kernel
theorem d_X_gather_44 : decode prog_9_method_39_code 44 = .ok (.iconst 1, 1) := by decide +kernel
theorem d_X_gather_45 : decode prog_9_method_39_code 45 = .ok (.invokevirtual 203, 3) := by decide +kernel
theorem d_X_gather_48 : decode prog_9_method_39_code 48 = .ok (.ifCond .ne 5, 3) := by decide +kernel
theorem d_X_gather_51 : decode prog_9_method_39_code 51 = .ok (.iconst 0, 1) := by decide +kernel
theorem d_X_gather_52 : decode prog_9_method_39_code 52 = .ok (.ireturn, 1) := by decide +kernel
theorem d_X_gather_53 : decode prog_9_method_39_code 53 = .ok (.aload_n 0, 1) := by decide +kernel
theorem d_X_gather_54 : decode prog_9_method_39_code 54 = .ok (.invokevirtual 207, 3) := by decide +kernel
theorem d_X_gather_57 : decode prog_9_method_39_code 57 = .ok (.aload_n 0, 1) := by decide +kernel
theorem d_X_gather_58 : decode prog_9_method_39_code 58 = .ok (.iconst 0, 1) := by decide +kernel
theorem d_X_gather_59 : decode prog_9_method_39_code 59 = .ok (.putfield 162, 3) := by decide +kernel
theorem d_X_gather_62 : decode prog_9_method_39_code 62 = .ok (.iconst 1, 1) := by decide +kernel
theorem d_X_gather_63 : decode prog_9_method_39_code 63 = .ok (.istore 4, 2) := by decide +kernel
theorem d_X_gather_65 : decode prog_9_method_39_code 65 = .ok (.iconst 0, 1) := by decide +kernel
theorem d_X_gather_66 : decode prog_9_method_39_code 66 = .ok (.istore 5, 2) := by decide +kernel
theorem d_X_gather_68 : decode prog_9_method_39_code 68 = .ok (.iload 5, 2) := by decide +kernel
theorem d_X_gather_70 : decode prog_9_method_39_code 70 = .ok (.aload_n 0, 1) := by decide +kernel
theorem d_X_gather_71 : decode prog_9_method_39_code 71 = .ok (.getfield 102, 3) := by decide +kernel
theorem d_X_gather_74 : decode prog_9_method_39_code 74 = .ok (.if_icmp .ge 49, 3) := by decide +kernel
theorem d_X_gather_77 : decode prog_9_method_39_code 77 = .ok (.iload 4, 2) := by decide +kernel
theorem d_X_gather_79 : decode prog_9_method_39_code 79 = .ok (.ifCond .eq 35, 3) := by decide +kernel
theorem d_X_gather_82 : decode prog_9_method_39_code 82 = .ok (.aload_n 0, 1) := by decide +kernel
theorem d_X_gather_83 : decode prog_9_method_39_code 83 = .ok (.aload_n 0, 1) := by decide +kernel
theorem d_X_gather_84 : decode prog_9_method_39_code 84 = .ok (.getfield 68, 3) := by decide +kernel
theorem d_X_gather_87 : decode prog_9_method_39_code 87 = .ok (.iconst 2, 1) := by decide +kernel
theorem d_X_gather_88 : decode prog_9_method_39_code 88 = .ok (.iload 5, 2) := by decide +kernel
theorem d_X_gather_90 : decode prog_9_method_39_code 90 = .ok (.imul, 1) := by decide +kernel
theorem d_X_gather_91 : decode prog_9_method_39_code 91 = .ok (.iaload, 1) := by decide +kernel
theorem d_X_gather_92 : decode prog_9_method_39_code 92 = .ok (.aload_n 0, 1) := by decide +kernel
theorem d_X_gather_93 : decode prog_9_method_39_code 93 = .ok (.getfield 68, 3) := by decide +kernel
theorem d_X_gather_96 : decode prog_9_method_39_code 96 = .ok (.iconst 2, 1) := by decide +kernel
theorem d_X_gather_97 : decode prog_9_method_39_code 97 = .ok (.iload 5, 2) := by decide +kernel
theorem d_X_gather_99 : decode prog_9_method_39_code 99 = .ok (.imul, 1) := by decide +kernel
theorem d_X_gather_100 : decode prog_9_method_39_code 100 = .ok (.iconst 1, 1) := by decide +kernel
theorem d_X_gather_101 : decode prog_9_method_39_code 101 = .ok (.iadd, 1) := by decide +kernel
theorem d_X_gather_102 : decode prog_9_method_39_code 102 = .ok (.iaload, 1) := by decide +kernel
theorem d_X_gather_103 : decode prog_9_method_39_code 103 = .ok (.iload_n 3, 1) := by decide +kernel
theorem d_X_gather_104 : decode prog_9_method_39_code 104 = .ok (.invokevirtual 203, 3) := by decide +kernel
theorem d_X_gather_107 : decode prog_9_method_39_code 107 = .ok (.ifCond .eq 7, 3) := by decide +kernel
theorem d_X_gather_110 : decode prog_9_method_39_code 110 = .ok (.iconst 1, 1) := by decide +kernel
theorem d_X_gather_111 : decode prog_9_method_39_code 111 = .ok (.goto 4, 3) := by decide +kernel
theorem d_X_gather_114 : decode prog_9_method_39_code 114 = .ok (.iconst 0, 1) := by decide +kernel
theorem d_X_gather_115 : decode prog_9_method_39_code 115 = .ok (.istore 4, 2) := by decide +kernel
theorem d_X_gather_117 : decode prog_9_method_39_code 117 = .ok (.iinc 5 1, 3) := by decide +kernel
theorem d_X_gather_120 : decode prog_9_method_39_code 120 = .ok (.goto (-52), 3) := by decide +kernel
theorem d_X_gather_123 : decode prog_9_method_39_code 123 = .ok (.iload 4, 2) := by decide +kernel
theorem d_X_gather_125 : decode prog_9_method_39_code 125 = .ok (.ireturn, 1) := by decide +kernel
def k_X_gather_0 (G : oG) (Post : oP) : oK := o_iload 1 <| o_ifeq (o_jmp G m_X_gather Post 8 [0, 2]) (o_iconst 1 <| o_jmp G m_X_gather Post 9 [0, 2])
theorem s_X_gather_0 {G : oG} {Post : oP} : oS G m_X_gather Post 0 (k_X_gather_0 G Post) := by
  unfold k_X_gather_0
  refine so_iload_n d_X_gather_0 rfl ?_
  refine so_ifeq d_X_gather_1 (tgt := 8) (by decide) ?_ ?_
  · exact so_jmp
  · refine so_iconst d_X_gather_4 rfl ?_
    refine so_goto d_X_gather_5 (tgt := 9) (by decide) ?_
    exact so_jmp
def k_X_gather_8 (G : oG) (Post : oP) : oK := o_iconst 2 <| o_jmp G m_X_gather Post 9 [0, 2]
theorem s_X_gather_8 {G : oG} {Post : oP} : oS G m_X_gather Post 8 (k_X_gather_8 G Post) := by
  unfold k_X_gather_8
  refine so_iconst d_X_gather_8 rfl ?_
  exact so_jmp
def k_X_gather_9 (G : oG) (Post : oP) : oK := o_istore 3 <| o_aload 0 <| o_iconst 0 <| o_putfI 7 23 <| o_iload 2 <| o_ifne (o_aload 0 <| o_aload 0 <| o_getf 7 21 <| o_iconst 2 <| o_aload 0 <| o_getf 7 22 <| o_imul <| o_iconst 1 <| o_callV G 7 m_X_range 3 <| o_jmp G m_X_gather Post 48 [0, 3]) (o_aload 0 <| o_aload 0 <| o_getf 7 21 <| o_aload 0 <| o_getf 7 22 <| o_iload 3 <| o_callV G 7 m_X_range 3 <| o_jmp G m_X_gather Post 32 [])
theorem s_X_gather_9 {G : oG} {Post : oP} : oS G m_X_gather Post 9 (k_X_gather_9 G Post) := by
  unfold k_X_gather_9
  refine so_istore_n d_X_gather_9 rfl (by decide) ?_
  refine so_aload_n d_X_gather_10 rfl ?_
  refine so_iconst d_X_gather_11 rfl ?_
  refine so_putfI cl_7 (k := 23) (by decide) rfl rfl w_585 d_X_gather_12 ?_
  refine so_iload_n d_X_gather_15 rfl ?_
  refine so_ifne d_X_gather_16 (tgt := 33) (by decide) ?_ ?_
  · refine so_aload_n d_X_gather_33 rfl ?_
    refine so_aload_n d_X_gather_34 rfl ?_
    refine so_getf cl_7 (k := 21) (by decide) w_583 d_X_gather_35 ?_
    refine so_iconst d_X_gather_38 rfl ?_
    refine so_aload_n d_X_gather_39 rfl ?_
    refine so_getf cl_7 (k := 22) (by decide) w_584 d_X_gather_40 ?_
    refine so_imul d_X_gather_43 ?_
    refine so_iconst d_X_gather_44 rfl ?_
    refine so_callV cl_7 f_X_range w_759 w_46 w_757 (by decide) (by decide) d_X_gather_45 ?_
    exact so_jmp
  · refine so_aload_n d_X_gather_19 rfl ?_
    refine so_aload_n d_X_gather_20 rfl ?_
    refine so_getf cl_7 (k := 21) (by decide) w_583 d_X_gather_21 ?_
    refine so_aload_n d_X_gather_24 rfl ?_
    refine so_getf cl_7 (k := 22) (by decide) w_584 d_X_gather_25 ?_
    refine so_iload_n d_X_gather_28 rfl ?_
    refine so_callV cl_7 f_X_range w_759 w_46 w_757 (by decide) (by decide) d_X_gather_29 ?_
    exact so_jmp
def k_X_gather_32 (G : oG) (Post : oP) : oK := o_zret Post
theorem s_X_gather_32 {G : oG} {Post : oP} : oS G m_X_gather Post 32 (k_X_gather_32 G Post) := by
  unfold k_X_gather_32
  exact so_zret d_X_gather_32 rfl
def k_X_gather_48 (G : oG) (Post : oP) : oK := o_ifne (o_aload 0 <| o_callV G 7 m_X_take 0 <| o_jmp G m_X_gather Post 57 [0, 3]) (o_iconst 0 <| o_zret Post)
theorem s_X_gather_48 {G : oG} {Post : oP} : oS G m_X_gather Post 48 (k_X_gather_48 G Post) := by
  unfold k_X_gather_48
  refine so_ifne d_X_gather_48 (tgt := 53) (by decide) ?_ ?_
  · refine so_aload_n d_X_gather_53 rfl ?_
    refine so_callV cl_7 f_X_take w_763 w_47 w_761 (by decide) (by decide) d_X_gather_54 ?_
    exact so_jmp
  · refine so_iconst d_X_gather_51 rfl ?_
    exact so_zret d_X_gather_52 rfl
def k_X_gather_57 (G : oG) (Post : oP) : oK := o_aload 0 <| o_iconst 0 <| o_putfI 7 23 <| o_iconst 1 <| o_istore 4 <| o_iconst 0 <| o_istore 5 <| o_jmp G m_X_gather Post 68 [0, 3, 4, 5]
theorem s_X_gather_57 {G : oG} {Post : oP} : oS G m_X_gather Post 57 (k_X_gather_57 G Post) := by
  unfold k_X_gather_57
  refine so_aload_n d_X_gather_57 rfl ?_
  refine so_iconst d_X_gather_58 rfl ?_
  refine so_putfI cl_7 (k := 23) (by decide) rfl rfl w_585 d_X_gather_59 ?_
  refine so_iconst d_X_gather_62 rfl ?_
  refine so_istore d_X_gather_63 (by decide) ?_
  refine so_iconst d_X_gather_65 rfl ?_
  refine so_istore d_X_gather_66 (by decide) ?_
  exact so_jmp
def k_X_gather_68 (G : oG) (Post : oP) : oK := o_iload 5 <| o_aload 0 <| o_getf 7 22 <| o_icmpge (o_iload 4 <| o_zret Post) (o_iload 4 <| o_ifeq (o_iconst 0 <| o_istore 4 <| o_iinc 5 1 <| o_jmp G m_X_gather Post 68 [0, 3, 4, 5]) (o_aload 0 <| o_aload 0 <| o_getf 7 25 <| o_iconst 2 <| o_iload 5 <| o_imul <| o_iald G <| o_aload 0 <| o_getf 7 25 <| o_iconst 2 <| o_iload 5 <| o_imul <| o_iconst 1 <| o_iadd <| o_iald G <| o_iload 3 <| o_callV G 7 m_X_range 3 <| o_jmp G m_X_gather Post 107 [0, 3, 5]))
theorem s_X_gather_68 {G : oG} {Post : oP} : oS G m_X_gather Post 68 (k_X_gather_68 G Post) := by
  unfold k_X_gather_68
  refine so_iload d_X_gather_68 ?_
  refine so_aload_n d_X_gather_70 rfl ?_
  refine so_getf cl_7 (k := 22) (by decide) w_584 d_X_gather_71 ?_
  refine so_icmpge d_X_gather_74 (tgt := 123) (by decide) ?_ ?_
  · refine so_iload d_X_gather_123 ?_
    exact so_zret d_X_gather_125 rfl
  · refine so_iload d_X_gather_77 ?_
    refine so_ifeq d_X_gather_79 (tgt := 114) (by decide) ?_ ?_
    · refine so_iconst d_X_gather_114 rfl ?_
      refine so_istore d_X_gather_115 (by decide) ?_
      refine so_iinc d_X_gather_117 rfl (by decide) ?_
      refine so_goto d_X_gather_120 (tgt := 68) (by decide) ?_
      exact so_jmp
    · refine so_aload_n d_X_gather_82 rfl ?_
      refine so_aload_n d_X_gather_83 rfl ?_
      refine so_getf cl_7 (k := 25) (by decide) w_587 d_X_gather_84 ?_
      refine so_iconst d_X_gather_87 rfl ?_
      refine so_iload d_X_gather_88 ?_
      refine so_imul d_X_gather_90 ?_
      refine so_iald d_X_gather_91 ?_
      refine so_aload_n d_X_gather_92 rfl ?_
      refine so_getf cl_7 (k := 25) (by decide) w_587 d_X_gather_93 ?_
      refine so_iconst d_X_gather_96 rfl ?_
      refine so_iload d_X_gather_97 ?_
      refine so_imul d_X_gather_99 ?_
      refine so_iconst d_X_gather_100 rfl ?_
      refine so_iadd d_X_gather_101 ?_
      refine so_iald d_X_gather_102 ?_
      refine so_iload_n d_X_gather_103 rfl ?_
      refine so_callV cl_7 f_X_range w_759 w_46 w_757 (by decide) (by decide) d_X_gather_104 ?_
      exact so_jmp
def k_X_gather_107 (G : oG) (Post : oP) : oK := o_ifeq (o_iconst 0 <| o_istore 4 <| o_iinc 5 1 <| o_jmp G m_X_gather Post 68 [0, 3, 4, 5]) (o_iconst 1 <| o_istore 4 <| o_iinc 5 1 <| o_jmp G m_X_gather Post 68 [0, 3, 4, 5])
theorem s_X_gather_107 {G : oG} {Post : oP} : oS G m_X_gather Post 107 (k_X_gather_107 G Post) := by
  unfold k_X_gather_107
  refine so_ifeq d_X_gather_107 (tgt := 114) (by decide) ?_ ?_
  · refine so_iconst d_X_gather_114 rfl ?_
    refine so_istore d_X_gather_115 (by decide) ?_
    refine so_iinc d_X_gather_117 rfl (by decide) ?_
    refine so_goto d_X_gather_120 (tgt := 68) (by decide) ?_
    exact so_jmp
  · refine so_iconst d_X_gather_110 rfl ?_
    refine so_goto d_X_gather_111 (tgt := 115) (by decide) ?_
    refine so_istore d_X_gather_115 (by decide) ?_
    refine so_iinc d_X_gather_117 rfl (by decide) ?_
    refine so_goto d_X_gather_120 (tgt := 68) (by decide) ?_
    exact so_jmp
theorem d_X_toFile_0 : decode prog_9_method_42_code 0 = .ok (.aload_n 0, 1) := by decide +kernel
theorem d_X_toFile_1 : decode prog_9_method_42_code 1 = .ok (.getfield 44, 3) := by decide +kernel
theorem d_X_toFile_4 : decode prog_9_method_42_code 4 = .ok (.iload_n 1, 1) := by decide +kernel
theorem d_X_toFile_5 : decode prog_9_method_42_code 5 = .ok (.iaload, 1) := by decide +kernel
theorem d_X_toFile_6 : decode prog_9_method_42_code 6 = .ok (.istore_n 2, 1) := by decide +kernel
theorem d_X_toFile_7 : decode prog_9_method_42_code 7 = .ok (.aload_n 0, 1) := by decide +kernel
theorem d_X_toFile_8 : decode prog_9_method_42_code 8 = .ok (.getfield 47, 3) := by decide +kernel
theorem d_X_toFile_11 : decode prog_9_method_42_code 11 = .ok (.iload_n 1, 1) := by decide +kernel
theorem d_X_toFile_12 : decode prog_9_method_42_code 12 = .ok (.iaload, 1) := by decide +kernel
theorem d_X_toFile_13 : decode prog_9_method_42_code 13 = .ok (.bipush 24, 2) := by decide +kernel
theorem d_X_toFile_15 : decode prog_9_method_42_code 15 = .ok (.if_icmp .ne 6, 3) := by decide +kernel
theorem d_X_toFile_18 : decode prog_9_method_42_code 18 = .ok (.bipush (-28), 2) := by decide +kernel
theorem d_X_toFile_20 : decode prog_9_method_42_code 20 = .ok (.ireturn, 1) := by decide +kernel
theorem d_X_toFile_21 : decode prog_9_method_42_code 21 = .ok (.aload_n 0, 1) := by decide +kernel
theorem d_X_toFile_22 : decode prog_9_method_42_code 22 = .ok (.getfield 26, 3) := by decide +kernel
theorem d_X_toFile_25 : decode prog_9_method_42_code 25 = .ok (.iload_n 2, 1) := by decide +kernel
theorem d_X_toFile_26 : decode prog_9_method_42_code 26 = .ok (.iaload, 1) := by decide +kernel
theorem d_X_toFile_27 : decode prog_9_method_42_code 27 = .ok (.aload_n 0, 1) := by decide +kernel
theorem d_X_toFile_28 : decode prog_9_method_42_code 28 = .ok (.getfield 47, 3) := by decide +kernel
theorem d_X_toFile_31 : decode prog_9_method_42_code 31 = .ok (.iload_n 1, 1) := by decide +kernel
theorem d_X_toFile_32 : decode prog_9_method_42_code 32 = .ok (.iaload, 1) := by decide +kernel
theorem d_X_toFile_33 : decode prog_9_method_42_code 33 = .ok (.if_icmp .ge 33, 3) := by decide +kernel
theorem d_X_toFile_36 : decode prog_9_method_42_code 36 = .ok (.aload_n 0, 1) := by decide +kernel
theorem d_X_toFile_37 : decode prog_9_method_42_code 37 = .ok (.getfield 29, 3) := by decide +kernel
theorem d_X_toFile_40 : decode prog_9_method_42_code 40 = .ok (.bipush 24, 2) := by decide +kernel
theorem d_X_toFile_42 : decode prog_9_method_42_code 42 = .ok (.iload_n 2, 1) := by decide +kernel
theorem d_X_toFile_43 : decode prog_9_method_42_code 43 = .ok (.imul, 1) := by decide +kernel
theorem d_X_toFile_44 : decode prog_9_method_42_code 44 = .ok (.aload_n 0, 1) := by decide +kernel
theorem d_X_toFile_45 : decode prog_9_method_42_code 45 = .ok (.getfield 26, 3) := by decide +kernel
theorem d_X_toFile_48 : decode prog_9_method_42_code 48 = .ok (.iload_n 2, 1) := by decide +kernel
theorem d_X_toFile_49 : decode prog_9_method_42_code 49 = .ok (.iaload, 1) := by decide +kernel
theorem d_X_toFile_50 : decode prog_9_method_42_code 50 = .ok (.iadd, 1) := by decide +kernel
theorem d_X_toFile_51 : decode prog_9_method_42_code 51 = .ok (.iconst 0, 1) := by decide +kernel
theorem d_X_toFile_52 : decode prog_9_method_42_code 52 = .ok (.iastore, 1) := by decide +kernel
theorem d_X_toFile_53 : decode prog_9_method_42_code 53 = .ok (.aload_n 0, 1) := by decide +kernel
theorem d_X_toFile_54 : decode prog_9_method_42_code 54 = .ok (.getfield 26, 3) := by decide +kernel
theorem d_X_toFile_57 : decode prog_9_method_42_code 57 = .ok (.iload_n 2, 1) := by decide +kernel
theorem d_X_toFile_58 : decode prog_9_method_42_code 58 = .ok (.dup2, 1) := by decide +kernel
theorem d_X_toFile_59 : decode prog_9_method_42_code 59 = .ok (.iaload, 1) := by decide +kernel
theorem d_X_toFile_60 : decode prog_9_method_42_code 60 = .ok (.iconst 1, 1) := by decide +kernel
theorem d_X_toFile_61 : decode prog_9_method_42_code 61 = .ok (.iadd, 1) := by decide +kernel
theorem d_X_toFile_62 : decode prog_9_method_42_code 62 = .ok (.iastore, 1) := by decide +kernel
theorem d_X_toFile_63 : decode prog_9_method_42_code 63 = .ok (.goto (-42), 3) := by decide +kernel
theorem d_X_toFile_66 : decode prog_9_method_42_code 66 = .ok (.iconst 0, 1) := by decide +kernel
theorem d_X_toFile_67 : decode prog_9_method_42_code 67 = .ok (.istore_n 3, 1) := by decide +kernel
theorem d_X_toFile_68 : decode prog_9_method_42_code 68 = .ok (.iload_n 3, 1) := by decide +kernel
theorem d_X_toFile_69 : decode prog_9_method_42_code 69 = .ok (.aload_n 0, 1) := by decide +kernel
theorem d_X_toFile_70 : decode prog_9_method_42_code 70 = .ok (.getfield 162, 3) := by decide +kernel
theorem d_X_toFile_73 : decode prog_9_method_42_code 73 = .ok (.if_icmp .ge 88, 3) := by decide +kernel
theorem d_X_toFile_76 : decode prog_9_method_42_code 76 = .ok (.aload_n 0, 1) := by decide +kernel
theorem d_X_toFile_77 : decode prog_9_method_42_code 77 = .ok (.getfield 47, 3) := by decide +kernel
theorem d_X_toFile_80 : decode prog_9_method_42_code 80 = .ok (.iload_n 1, 1) := by decide +kernel
theorem d_X_toFile_81 : decode prog_9_method_42_code 81 = .ok (.iaload, 1) := by decide +kernel
theorem d_X_toFile_82 : decode prog_9_method_42_code 82 = .ok (.bipush 24, 2) := by decide +kernel
theorem d_X_toFile_84 : decode prog_9_method_42_code 84 = .ok (.if_icmp .ge 77, 3) := by decide +kernel
theorem d_X_toFile_87 : decode prog_9_method_42_code 87 = .ok (.aload_n 0, 1) := by decide +kernel
theorem d_X_toFile_88 : decode prog_9_method_42_code 88 = .ok (.getfield 29, 3) := by decide +kernel
theorem d_X_toFile_91 : decode prog_9_method_42_code 91 = .ok (.bipush 24, 2) := by decide +kernel
theorem d_X_toFile_93 : decode prog_9_method_42_code 93 = .ok (.iload_n 2, 1) := by decide +kernel
theorem d_X_toFile_94 : decode prog_9_method_42_code 94 = .ok (.imul, 1) := by decide +kernel
theorem d_X_toFile_95 : decode prog_9_method_42_code 95 = .ok (.aload_n 0, 1) := by decide +kernel
theorem d_X_toFile_96 : decode prog_9_method_42_code 96 = .ok (.getfield 47, 3) := by decide +kernel
theorem d_X_toFile_99 : decode prog_9_method_42_code 99 = .ok (.iload_n 1, 1) := by decide +kernel
theorem d_X_toFile_100 : decode prog_9_method_42_code 100 = .ok (.iaload, 1) := by decide +kernel
theorem d_X_toFile_101 : decode prog_9_method_42_code 101 = .ok (.iadd, 1) := by decide +kernel
theorem d_X_toFile_102 : decode prog_9_method_42_code 102 = .ok (.aload_n 0, 1) := by decide +kernel
theorem d_X_toFile_103 : decode prog_9_method_42_code 103 = .ok (.getfield 68, 3) := by decide +kernel
theorem d_X_toFile_106 : decode prog_9_method_42_code 106 = .ok (.iload_n 3, 1) := by decide +kernel
theorem d_X_toFile_107 : decode prog_9_method_42_code 107 = .ok (.iaload, 1) := by decide +kernel
theorem d_X_toFile_108 : decode prog_9_method_42_code 108 = .ok (.iastore, 1) := by decide +kernel
theorem d_X_toFile_109 : decode prog_9_method_42_code 109 = .ok (.aload_n 0, 1) := by decide +kernel
theorem d_X_toFile_110 : decode prog_9_method_42_code 110 = .ok (.getfield 47, 3) := by decide +kernel
theorem d_X_toFile_113 : decode prog_9_method_42_code 113 = .ok (.iload_n 1, 1) := by decide +kernel
theorem d_X_toFile_114 : decode prog_9_method_42_code 114 = .ok (.dup2, 1) := by decide +kernel
theorem d_X_toFile_115 : decode prog_9_method_42_code 115 = .ok (.iaload, 1) := by decide +kernel
theorem d_X_toFile_116 : decode prog_9_method_42_code 116 = .ok (.iconst 1, 1) := by decide +kernel
theorem d_X_toFile_117 : decode prog_9_method_42_code 117 = .ok (.iadd, 1) := by decide +kernel
theorem d_X_toFile_118 : decode prog_9_method_42_code 118 = .ok (.iastore, 1) := by decide +kernel
theorem d_X_toFile_119 : decode prog_9_method_42_code 119 = .ok (.aload_n 0, 1) := by decide +kernel
theorem d_X_toFile_120 : decode prog_9_method_42_code 120 = .ok (.getfield 26, 3) := by decide +kernel
theorem d_X_toFile_123 : decode prog_9_method_42_code 123 = .ok (.iload_n 2, 1) := by decide +kernel
theorem d_X_toFile_124 : decode prog_9_method_42_code 124 = .ok (.aload_n 0, 1) := by decide +kernel
theorem d_X_toFile_125 : decode prog_9_method_42_code 125 = .ok (.getfield 26, 3) := by decide +kernel
theorem d_X_toFile_128 : decode prog_9_method_42_code 128 = .ok (.iload_n 2, 1) := by decide +kernel
theorem d_X_toFile_129 : decode prog_9_method_42_code 129 = .ok (.iaload, 1) := by decide +kernel
theorem d_X_toFile_130 : decode prog_9_method_42_code 130 = .ok (.aload_n 0, 1) := by decide +kernel
theorem d_X_toFile_131 : decode prog_9_method_42_code 131 = .ok (.getfield 47, 3) := by decide +kernel
theorem d_X_toFile_134 : decode prog_9_method_42_code 134 = .ok (.iload_n 1, 1) := by decide +kernel
theorem d_X_toFile_135 : decode prog_9_method_42_code 135 = .ok (.iaload, 1) := by decide +kernel
theorem d_X_toFile_136 : decode prog_9_method_42_code 136 = .ok (.if_icmp .ge 12, 3) := by decide +kernel
theorem d_X_toFile_139 : decode prog_9_method_42_code 139 = .ok (.aload_n 0, 1) := by decide +kernel
theorem d_X_toFile_140 : decode prog_9_method_42_code 140 = .ok (.getfield 47, 3) := by decide +kernel
theorem d_X_toFile_143 : decode prog_9_method_42_code 143 = .ok (.iload_n 1, 1) := by decide +kernel
theorem d_X_toFile_144 : decode prog_9_method_42_code 144 = .ok (.iaload, 1) := by decide +kernel
theorem d_X_toFile_145 : decode prog_9_method_42_code 145 = .ok (.goto 9, 3) := by decide +kernel
theorem d_X_toFile_148 : decode prog_9_method_42_code 148 = .ok (.aload_n 0, 1) := by decide +kernel
theorem d_X_toFile_149 : decode prog_9_method_42_code 149 = .ok (.getfield 26, 3) := by decide +kernel
theorem d_X_toFile_152 : decode prog_9_method_42_code 152 = .ok (.iload_n 2, 1) := by decide +kernel
theorem d_X_toFile_153 : decode prog_9_method_42_code 153 = .ok (.iaload, 1) := by decide +kernel
theorem d_X_toFile_154 : decode prog_9_method_42_code 154 = .ok (.iastore, 1) := by decide +kernel
theorem d_X_toFile_155 : decode prog_9_method_42_code 155 = .ok (.iinc 3 1, 3) := by decide +kernel
theorem d_X_toFile_158 : decode prog_9_method_42_code 158 = .ok (.goto (-90), 3) := by decide +kernel
theorem d_X_toFile_161 : decode prog_9_method_42_code 161 = .ok (.iload_n 3, 1) := by decide +kernel
theorem d_X_toFile_162 : decode prog_9_method_42_code 162 = .ok (.ireturn, 1) := by decide +kernel
def k_X_toFile_0 (G : oG) (Post : oP) : oK := o_aload 0 <| o_getf 7 12 <| o_iload 1 <| o_iald G <| o_istore 2 <| o_aload 0 <| o_getf 7 13 <| o_iload 1 <| o_iald G <| o_iconst 24 <| o_icmpne (o_jmp G m_X_toFile Post 21 [0, 1, 2]) (o_iconst (-28) <| o_iret Post)
theorem s_X_toFile_0 {G : oG} {Post : oP} : oS G m_X_toFile Post 0 (k_X_toFile_0 G Post) := by
  unfold k_X_toFile_0
  refine so_aload_n d_X_toFile_0 rfl ?_
  refine so_getf cl_7 (k := 12) (by decide) w_574 d_X_toFile_1 ?_
  refine so_iload_n d_X_toFile_4 rfl ?_
  refine so_iald d_X_toFile_5 ?_
  refine so_istore_n d_X_toFile_6 rfl (by decide) ?_
  refine so_aload_n d_X_toFile_7 rfl ?_
  refine so_getf cl_7 (k := 13) (by decide) w_575 d_X_toFile_8 ?_
  refine so_iload_n d_X_toFile_11 rfl ?_
  refine so_iald d_X_toFile_12 ?_
  refine so_bipush d_X_toFile_13 rfl ?_
  refine so_icmpne d_X_toFile_15 (tgt := 21) (by decide) ?_ ?_
  · exact so_jmp
  · refine so_bipush d_X_toFile_18 rfl ?_
    exact so_iret d_X_toFile_20 rfl
def k_X_toFile_21 (G : oG) (Post : oP) : oK := o_aload 0 <| o_getf 7 6 <| o_iload 2 <| o_iald G <| o_aload 0 <| o_getf 7 13 <| o_iload 1 <| o_iald G <| o_icmpge (o_iconst 0 <| o_istore 3 <| o_jmp G m_X_toFile Post 68 [0, 1, 2, 3]) (o_aload 0 <| o_getf 7 7 <| o_iconst 24 <| o_iload 2 <| o_imul <| o_aload 0 <| o_getf 7 6 <| o_iload 2 <| o_iald G <| o_iadd <| o_iconst 0 <| o_iast <| o_aload 0 <| o_getf 7 6 <| o_iload 2 <| o_dup2 <| o_iald G <| o_iconst 1 <| o_iadd <| o_iast <| o_jmp G m_X_toFile Post 21 [0, 1, 2])
theorem s_X_toFile_21 {G : oG} {Post : oP} : oS G m_X_toFile Post 21 (k_X_toFile_21 G Post) := by
  unfold k_X_toFile_21
  refine so_aload_n d_X_toFile_21 rfl ?_
  refine so_getf cl_7 (k := 6) (by decide) w_568 d_X_toFile_22 ?_
  refine so_iload_n d_X_toFile_25 rfl ?_
  refine so_iald d_X_toFile_26 ?_
  refine so_aload_n d_X_toFile_27 rfl ?_
  refine so_getf cl_7 (k := 13) (by decide) w_575 d_X_toFile_28 ?_
  refine so_iload_n d_X_toFile_31 rfl ?_
  refine so_iald d_X_toFile_32 ?_
  refine so_icmpge d_X_toFile_33 (tgt := 66) (by decide) ?_ ?_
  · refine so_iconst d_X_toFile_66 rfl ?_
    refine so_istore_n d_X_toFile_67 rfl (by decide) ?_
    exact so_jmp
  · refine so_aload_n d_X_toFile_36 rfl ?_
    refine so_getf cl_7 (k := 7) (by decide) w_569 d_X_toFile_37 ?_
    refine so_bipush d_X_toFile_40 rfl ?_
    refine so_iload_n d_X_toFile_42 rfl ?_
    refine so_imul d_X_toFile_43 ?_
    refine so_aload_n d_X_toFile_44 rfl ?_
    refine so_getf cl_7 (k := 6) (by decide) w_568 d_X_toFile_45 ?_
    refine so_iload_n d_X_toFile_48 rfl ?_
    refine so_iald d_X_toFile_49 ?_
    refine so_iadd d_X_toFile_50 ?_
    refine so_iconst d_X_toFile_51 rfl ?_
    refine so_iast d_X_toFile_52 ?_
    refine so_aload_n d_X_toFile_53 rfl ?_
    refine so_getf cl_7 (k := 6) (by decide) w_568 d_X_toFile_54 ?_
    refine so_iload_n d_X_toFile_57 rfl ?_
    refine so_dup2 d_X_toFile_58 ?_
    refine so_iald d_X_toFile_59 ?_
    refine so_iconst d_X_toFile_60 rfl ?_
    refine so_iadd d_X_toFile_61 ?_
    refine so_iast d_X_toFile_62 ?_
    refine so_goto d_X_toFile_63 (tgt := 21) (by decide) ?_
    exact so_jmp
def k_X_toFile_68 (G : oG) (Post : oP) : oK := o_iload 3 <| o_aload 0 <| o_getf 7 23 <| o_icmpge (o_iload 3 <| o_iret Post) (o_aload 0 <| o_getf 7 13 <| o_iload 1 <| o_iald G <| o_iconst 24 <| o_icmpge (o_iload 3 <| o_iret Post) (o_aload 0 <| o_getf 7 7 <| o_iconst 24 <| o_iload 2 <| o_imul <| o_aload 0 <| o_getf 7 13 <| o_iload 1 <| o_iald G <| o_iadd <| o_aload 0 <| o_getf 7 25 <| o_iload 3 <| o_iald G <| o_iast <| o_aload 0 <| o_getf 7 13 <| o_iload 1 <| o_dup2 <| o_iald G <| o_iconst 1 <| o_iadd <| o_iast <| o_aload 0 <| o_getf 7 6 <| o_iload 2 <| o_aload 0 <| o_getf 7 6 <| o_iload 2 <| o_iald G <| o_aload 0 <| o_getf 7 13 <| o_iload 1 <| o_iald G <| o_icmpge (o_aload 0 <| o_getf 7 6 <| o_iload 2 <| o_iald G <| o_iast <| o_iinc 3 1 <| o_jmp G m_X_toFile Post 68 [0, 1, 2, 3]) (o_aload 0 <| o_getf 7 13 <| o_iload 1 <| o_iald G <| o_iast <| o_iinc 3 1 <| o_jmp G m_X_toFile Post 68 [0, 1, 2, 3])))
theorem s_X_toFile_68 {G : oG} {Post : oP} : oS G m_X_toFile Post 68 (k_X_toFile_68 G Post) := by
  unfold k_X_toFile_68
  refine so_iload_n d_X_toFile_68 rfl ?_
  refine so_aload_n d_X_toFile_69 rfl ?_
  refine so_getf cl_7 (k := 23) (by decide) w_585 d_X_toFile_70 ?_
  refine so_icmpge d_X_toFile_73 (tgt := 161) (by decide) ?_ ?_
  · refine so_iload_n d_X_toFile_161 rfl ?_
    exact so_iret d_X_toFile_162 rfl
  · refine so_aload_n d_X_toFile_76 rfl ?_
    refine so_getf cl_7 (k := 13) (by decide) w_575 d_X_toFile_77 ?_
    refine so_iload_n d_X_toFile_80 rfl ?_
    refine so_iald d_X_toFile_81 ?_
    refine so_bipush d_X_toFile_82 rfl ?_
    refine so_icmpge d_X_toFile_84 (tgt := 161) (by decide) ?_ ?_
    · refine so_iload_n d_X_toFile_161 rfl ?_
      exact so_iret d_X_toFile_162 rfl
    · refine so_aload_n d_X_toFile_87 rfl ?_
      refine so_getf cl_7 (k := 7) (by decide) w_569 d_X_toFile_88 ?_
      refine so_bipush d_X_toFile_91 rfl ?_
      refine so_iload_n d_X_toFile_93 rfl ?_
      refine so_imul d_X_toFile_94 ?_
      refine so_aload_n d_X_toFile_95 rfl ?_
      refine so_getf cl_7 (k := 13) (by decide) w_575 d_X_toFile_96 ?_
      refine so_iload_n d_X_toFile_99 rfl ?_
      refine so_iald d_X_toFile_100 ?_
      refine so_iadd d_X_toFile_101 ?_
      refine so_aload_n d_X_toFile_102 rfl ?_
      refine so_getf cl_7 (k := 25) (by decide) w_587 d_X_toFile_103 ?_
      refine so_iload_n d_X_toFile_106 rfl ?_
      refine so_iald d_X_toFile_107 ?_
      refine so_iast d_X_toFile_108 ?_
      refine so_aload_n d_X_toFile_109 rfl ?_
      refine so_getf cl_7 (k := 13) (by decide) w_575 d_X_toFile_110 ?_
      refine so_iload_n d_X_toFile_113 rfl ?_
      refine so_dup2 d_X_toFile_114 ?_
      refine so_iald d_X_toFile_115 ?_
      refine so_iconst d_X_toFile_116 rfl ?_
      refine so_iadd d_X_toFile_117 ?_
      refine so_iast d_X_toFile_118 ?_
      refine so_aload_n d_X_toFile_119 rfl ?_
      refine so_getf cl_7 (k := 6) (by decide) w_568 d_X_toFile_120 ?_
      refine so_iload_n d_X_toFile_123 rfl ?_
      refine so_aload_n d_X_toFile_124 rfl ?_
      refine so_getf cl_7 (k := 6) (by decide) w_568 d_X_toFile_125 ?_
      refine so_iload_n d_X_toFile_128 rfl ?_
      refine so_iald d_X_toFile_129 ?_
      refine so_aload_n d_X_toFile_130 rfl ?_
      refine so_getf cl_7 (k := 13) (by decide) w_575 d_X_toFile_131 ?_
      refine so_iload_n d_X_toFile_134 rfl ?_
      refine so_iald d_X_toFile_135 ?_
      refine so_icmpge d_X_toFile_136 (tgt := 148) (by decide) ?_ ?_
      · refine so_aload_n d_X_toFile_148 rfl ?_
        refine so_getf cl_7 (k := 6) (by decide) w_568 d_X_toFile_149 ?_
        refine so_iload_n d_X_toFile_152 rfl ?_
        refine so_iald d_X_toFile_153 ?_
        refine so_iast d_X_toFile_154 ?_
        refine so_iinc d_X_toFile_155 rfl (by decide) ?_
        refine so_goto d_X_toFile_158 (tgt := 68) (by decide) ?_
        exact so_jmp
      · refine so_aload_n d_X_toFile_139 rfl ?_
        refine so_getf cl_7 (k := 13) (by decide) w_575 d_X_toFile_140 ?_
        refine so_iload_n d_X_toFile_143 rfl ?_
        refine so_iald d_X_toFile_144 ?_
        refine so_goto d_X_toFile_145 (tgt := 154) (by decide) ?_
        refine so_iast d_X_toFile_154 ?_
        refine so_iinc d_X_toFile_155 rfl (by decide) ?_
        refine so_goto d_X_toFile_158 (tgt := 68) (by decide) ?_
        exact so_jmp
theorem d_X_opensOf_0 : decode prog_9_method_30_code 0 = .ok (.iconst 0, 1) := by decide +kernel
theorem d_X_opensOf_1 : decode prog_9_method_30_code 1 = .ok (.istore_n 3, 1) := by decide +kernel
theorem d_X_opensOf_2 : decode prog_9_method_30_code 2 = .ok (.iconst 0, 1) := by decide +kernel
theorem d_X_opensOf_3 : decode prog_9_method_30_code 3 = .ok (.istore 4, 2) := by decide +kernel
theorem d_X_opensOf_5 : decode prog_9_method_30_code 5 = .ok (.iload 4, 2) := by decide +kernel
theorem d_X_opensOf_7 : decode prog_9_method_30_code 7 = .ok (.bipush 8, 2) := by decide +kernel
theorem d_X_opensOf_9 : decode prog_9_method_30_code 9 = .ok (.if_icmp .ge 39, 3) := by decide +kernel
theorem d_X_opensOf_12 : decode prog_9_method_30_code 12 = .ok (.iload_n 3, 1) := by decide +kernel
theorem d_X_opensOf_13 : decode prog_9_method_30_code 13 = .ok (.aload_n 0, 1) := by decide +kernel
theorem d_X_opensOf_14 : decode prog_9_method_30_code 14 = .ok (.getfield 41, 3) := by decide +kernel
theorem d_X_opensOf_17 : decode prog_9_method_30_code 17 = .ok (.iload 4, 2) := by decide +kernel
theorem d_X_opensOf_19 : decode prog_9_method_30_code 19 = .ok (.iaload, 1) := by decide +kernel
theorem d_X_opensOf_20 : decode prog_9_method_30_code 20 = .ok (.iload_n 1, 1) := by decide +kernel
theorem d_X_opensOf_21 : decode prog_9_method_30_code 21 = .ok (.if_icmp .ne 18, 3) := by decide +kernel
theorem d_X_opensOf_24 : decode prog_9_method_30_code 24 = .ok (.aload_n 0, 1) := by decide +kernel
theorem d_X_opensOf_25 : decode prog_9_method_30_code 25 = .ok (.getfield 44, 3) := by decide +kernel
theorem d_X_opensOf_28 : decode prog_9_method_30_code 28 = .ok (.iload 4, 2) := by decide +kernel
theorem d_X_opensOf_30 : decode prog_9_method_30_code 30 = .ok (.iaload, 1) := by decide +kernel
theorem d_X_opensOf_31 : decode prog_9_method_30_code 31 = .ok (.iload_n 2, 1) := by decide +kernel
theorem d_X_opensOf_32 : decode prog_9_method_30_code 32 = .ok (.if_icmp .ne 7, 3) := by decide +kernel
theorem d_X_opensOf_35 : decode prog_9_method_30_code 35 = .ok (.iconst 1, 1) := by decide +kernel
theorem d_X_opensOf_36 : decode prog_9_method_30_code 36 = .ok (.goto 4, 3) := by decide +kernel
theorem d_X_opensOf_39 : decode prog_9_method_30_code 39 = .ok (.iconst 0, 1) := by decide +kernel
theorem d_X_opensOf_40 : decode prog_9_method_30_code 40 = .ok (.iadd, 1) := by decide +kernel
theorem d_X_opensOf_41 : decode prog_9_method_30_code 41 = .ok (.istore_n 3, 1) := by decide +kernel
theorem d_X_opensOf_42 : decode prog_9_method_30_code 42 = .ok (.iinc 4 1, 3) := by decide +kernel
theorem d_X_opensOf_45 : decode prog_9_method_30_code 45 = .ok (.goto (-40), 3) := by decide +kernel
theorem d_X_opensOf_48 : decode prog_9_method_30_code 48 = .ok (.iload_n 3, 1) := by decide +kernel
theorem d_X_opensOf_49 : decode prog_9_method_30_code 49 = .ok (.ireturn, 1) := by decide +kernel
def k_X_opensOf_0 (G : oG) (Post : oP) : oK := o_iconst 0 <| o_istore 3 <| o_iconst 0 <| o_istore 4 <| o_jmp G m_X_opensOf Post 5 [0, 1, 2, 3, 4]
theorem s_X_opensOf_0 {G : oG} {Post : oP} : oS G m_X_opensOf Post 0 (k_X_opensOf_0 G Post) := by
  unfold k_X_opensOf_0
  refine so_iconst d_X_opensOf_0 rfl ?_
  refine so_istore_n d_X_opensOf_1 rfl (by decide) ?_
  refine so_iconst d_X_opensOf_2 rfl ?_
  refine so_istore d_X_opensOf_3 (by decide) ?_
  exact so_jmp
def k_X_opensOf_5 (G : oG) (Post : oP) : oK := o_iload 4 <| o_iconst 8 <| o_icmpge (o_iload 3 <| o_iret Post) (o_iload 3 <| o_aload 0 <| o_getf 7 11 <| o_iload 4 <| o_iald G <| o_iload 1 <| o_icmpne (o_iconst 0 <| o_iadd <| o_istore 3 <| o_iinc 4 1 <| o_jmp G m_X_opensOf Post 5 [0, 1, 2, 3, 4]) (o_aload 0 <| o_getf 7 12 <| o_iload 4 <| o_iald G <| o_iload 2 <| o_icmpne (o_iconst 0 <| o_iadd <| o_istore 3 <| o_iinc 4 1 <| o_jmp G m_X_opensOf Post 5 [0, 1, 2, 3, 4]) (o_iconst 1 <| o_iadd <| o_istore 3 <| o_iinc 4 1 <| o_jmp G m_X_opensOf Post 5 [0, 1, 2, 3, 4])))
theorem s_X_opensOf_5 {G : oG} {Post : oP} : oS G m_X_opensOf Post 5 (k_X_opensOf_5 G Post) := by
  unfold k_X_opensOf_5
  refine so_iload d_X_opensOf_5 ?_
  refine so_bipush d_X_opensOf_7 rfl ?_
  refine so_icmpge d_X_opensOf_9 (tgt := 48) (by decide) ?_ ?_
  · refine so_iload_n d_X_opensOf_48 rfl ?_
    exact so_iret d_X_opensOf_49 rfl
  · refine so_iload_n d_X_opensOf_12 rfl ?_
    refine so_aload_n d_X_opensOf_13 rfl ?_
    refine so_getf cl_7 (k := 11) (by decide) w_573 d_X_opensOf_14 ?_
    refine so_iload d_X_opensOf_17 ?_
    refine so_iald d_X_opensOf_19 ?_
    refine so_iload_n d_X_opensOf_20 rfl ?_
    refine so_icmpne d_X_opensOf_21 (tgt := 39) (by decide) ?_ ?_
    · refine so_iconst d_X_opensOf_39 rfl ?_
      refine so_iadd d_X_opensOf_40 ?_
      refine so_istore_n d_X_opensOf_41 rfl (by decide) ?_
      refine so_iinc d_X_opensOf_42 rfl (by decide) ?_
      refine so_goto d_X_opensOf_45 (tgt := 5) (by decide) ?_
      exact so_jmp
    · refine so_aload_n d_X_opensOf_24 rfl ?_
      refine so_getf cl_7 (k := 12) (by decide) w_574 d_X_opensOf_25 ?_
      refine so_iload d_X_opensOf_28 ?_
      refine so_iald d_X_opensOf_30 ?_
      refine so_iload_n d_X_opensOf_31 rfl ?_
      refine so_icmpne d_X_opensOf_32 (tgt := 39) (by decide) ?_ ?_
      · refine so_iconst d_X_opensOf_39 rfl ?_
        refine so_iadd d_X_opensOf_40 ?_
        refine so_istore_n d_X_opensOf_41 rfl (by decide) ?_
        refine so_iinc d_X_opensOf_42 rfl (by decide) ?_
        refine so_goto d_X_opensOf_45 (tgt := 5) (by decide) ?_
        exact so_jmp
      · refine so_iconst d_X_opensOf_35 rfl ?_
        refine so_goto d_X_opensOf_36 (tgt := 40) (by decide) ?_
        refine so_iadd d_X_opensOf_40 ?_
        refine so_istore_n d_X_opensOf_41 rfl (by decide) ?_
        refine so_iinc d_X_opensOf_42 rfl (by decide) ?_
        refine so_goto d_X_opensOf_45 (tgt := 5) (by decide) ?_
        exact so_jmp
theorem d_X_toPipe_0 : decode prog_9_method_44_code 0 = .ok (.aload_n 0, 1) := by decide +kernel
theorem d_X_toPipe_1 : decode prog_9_method_44_code 1 = .ok (.iconst 2, 1) := by decide +kernel
theorem d_X_toPipe_2 : decode prog_9_method_44_code 2 = .ok (.iload_n 1, 1) := by decide +kernel
theorem d_X_toPipe_3 : decode prog_9_method_44_code 3 = .ok (.invokevirtual 171, 3) := by decide +kernel
theorem d_X_toPipe_6 : decode prog_9_method_44_code 6 = .ok (.ifCond .ne 6, 3) := by decide +kernel
theorem d_X_toPipe_9 : decode prog_9_method_44_code 9 = .ok (.bipush (-32), 2) := by decide +kernel
theorem d_X_toPipe_11 : decode prog_9_method_44_code 11 = .ok (.ireturn, 1) := by decide +kernel
theorem d_X_toPipe_12 : decode prog_9_method_44_code 12 = .ok (.aload_n 0, 1) := by decide +kernel
theorem d_X_toPipe_13 : decode prog_9_method_44_code 13 = .ok (.getfield 56, 3) := by decide +kernel
theorem d_X_toPipe_16 : decode prog_9_method_44_code 16 = .ok (.iload_n 1, 1) := by decide +kernel
theorem d_X_toPipe_17 : decode prog_9_method_44_code 17 = .ok (.iaload, 1) := by decide +kernel
theorem d_X_toPipe_18 : decode prog_9_method_44_code 18 = .ok (.bipush 8, 2) := by decide +kernel
theorem d_X_toPipe_20 : decode prog_9_method_44_code 20 = .ok (.if_icmp .ne 6, 3) := by decide +kernel
theorem d_X_toPipe_23 : decode prog_9_method_44_code 23 = .ok (.bipush (-11), 2) := by decide +kernel
theorem d_X_toPipe_25 : decode prog_9_method_44_code 25 = .ok (.ireturn, 1) := by decide +kernel
theorem d_X_toPipe_26 : decode prog_9_method_44_code 26 = .ok (.iconst 0, 1) := by decide +kernel
theorem d_X_toPipe_27 : decode prog_9_method_44_code 27 = .ok (.istore_n 2, 1) := by decide +kernel
theorem d_X_toPipe_28 : decode prog_9_method_44_code 28 = .ok (.iload_n 2, 1) := by decide +kernel
theorem d_X_toPipe_29 : decode prog_9_method_44_code 29 = .ok (.aload_n 0, 1) := by decide +kernel
theorem d_X_toPipe_30 : decode prog_9_method_44_code 30 = .ok (.getfield 162, 3) := by decide +kernel
theorem d_X_toPipe_33 : decode prog_9_method_44_code 33 = .ok (.if_icmp .ge 52, 3) := by decide +kernel
theorem d_X_toPipe_36 : decode prog_9_method_44_code 36 = .ok (.aload_n 0, 1) := by decide +kernel
theorem d_X_toPipe_37 : decode prog_9_method_44_code 37 = .ok (.getfield 56, 3) := by decide +kernel
theorem d_X_toPipe_40 : decode prog_9_method_44_code 40 = .ok (.iload_n 1, 1) := by decide +kernel
theorem d_X_toPipe_41 : decode prog_9_method_44_code 41 = .ok (.iaload, 1) := by decide +kernel
theorem d_X_toPipe_42 : decode prog_9_method_44_code 42 = .ok (.bipush 8, 2) := by decide +kernel
theorem d_X_toPipe_44 : decode prog_9_method_44_code 44 = .ok (.if_icmp .ge 41, 3) := by decide +kernel
theorem d_X_toPipe_47 : decode prog_9_method_44_code 47 = .ok (.aload_n 0, 1) := by decide +kernel
theorem d_X_toPipe_48 : decode prog_9_method_44_code 48 = .ok (.getfield 59, 3) := by decide +kernel
theorem d_X_toPipe_51 : decode prog_9_method_44_code 51 = .ok (.bipush 8, 2) := by decide +kernel
theorem d_X_toPipe_53 : decode prog_9_method_44_code 53 = .ok (.iload_n 1, 1) := by decide +kernel
theorem d_X_toPipe_54 : decode prog_9_method_44_code 54 = .ok (.imul, 1) := by decide +kernel
theorem d_X_toPipe_55 : decode prog_9_method_44_code 55 = .ok (.aload_n 0, 1) := by decide +kernel
theorem d_X_toPipe_56 : decode prog_9_method_44_code 56 = .ok (.getfield 56, 3) := by decide +kernel
theorem d_X_toPipe_59 : decode prog_9_method_44_code 59 = .ok (.iload_n 1, 1) := by decide +kernel
theorem d_X_toPipe_60 : decode prog_9_method_44_code 60 = .ok (.iaload, 1) := by decide +kernel
theorem d_X_toPipe_61 : decode prog_9_method_44_code 61 = .ok (.iadd, 1) := by decide +kernel
theorem d_X_toPipe_62 : decode prog_9_method_44_code 62 = .ok (.aload_n 0, 1) := by decide +kernel
theorem d_X_toPipe_63 : decode prog_9_method_44_code 63 = .ok (.getfield 68, 3) := by decide +kernel
theorem d_X_toPipe_66 : decode prog_9_method_44_code 66 = .ok (.iload_n 2, 1) := by decide +kernel
theorem d_X_toPipe_67 : decode prog_9_method_44_code 67 = .ok (.iaload, 1) := by decide +kernel
theorem d_X_toPipe_68 : decode prog_9_method_44_code 68 = .ok (.iastore, 1) := by decide +kernel
theorem d_X_toPipe_69 : decode prog_9_method_44_code 69 = .ok (.aload_n 0, 1) := by decide +kernel
theorem d_X_toPipe_70 : decode prog_9_method_44_code 70 = .ok (.getfield 56, 3) := by decide +kernel
theorem d_X_toPipe_73 : decode prog_9_method_44_code 73 = .ok (.iload_n 1, 1) := by decide +kernel
theorem d_X_toPipe_74 : decode prog_9_method_44_code 74 = .ok (.dup2, 1) := by decide +kernel
theorem d_X_toPipe_75 : decode prog_9_method_44_code 75 = .ok (.iaload, 1) := by decide +kernel
theorem d_X_toPipe_76 : decode prog_9_method_44_code 76 = .ok (.iconst 1, 1) := by decide +kernel
theorem d_X_toPipe_77 : decode prog_9_method_44_code 77 = .ok (.iadd, 1) := by decide +kernel
theorem d_X_toPipe_78 : decode prog_9_method_44_code 78 = .ok (.iastore, 1) := by decide +kernel
theorem d_X_toPipe_79 : decode prog_9_method_44_code 79 = .ok (.iinc 2 1, 3) := by decide +kernel
theorem d_X_toPipe_82 : decode prog_9_method_44_code 82 = .ok (.goto (-54), 3) := by decide +kernel
theorem d_X_toPipe_85 : decode prog_9_method_44_code 85 = .ok (.iload_n 2, 1) := by decide +kernel
theorem d_X_toPipe_86 : decode prog_9_method_44_code 86 = .ok (.ireturn, 1) := by decide +kernel
def k_X_toPipe_0 (G : oG) (Post : oP) : oK := o_aload 0 <| o_iconst 2 <| o_iload 1 <| o_callV G 7 m_X_opensOf 2 <| o_jmp G m_X_toPipe Post 6 [0, 1]
theorem s_X_toPipe_0 {G : oG} {Post : oP} : oS G m_X_toPipe Post 0 (k_X_toPipe_0 G Post) := by
  unfold k_X_toPipe_0
  refine so_aload_n d_X_toPipe_0 rfl ?_
  refine so_iconst d_X_toPipe_1 rfl ?_
  refine so_iload_n d_X_toPipe_2 rfl ?_
  refine so_callV cl_7 f_X_opensOf w_775 w_50 w_773 (by decide) (by decide) d_X_toPipe_3 ?_
  exact so_jmp
def k_X_toPipe_6 (G : oG) (Post : oP) : oK := o_ifne (o_aload 0 <| o_getf 7 16 <| o_iload 1 <| o_iald G <| o_iconst 8 <| o_icmpne (o_iconst 0 <| o_istore 2 <| o_jmp G m_X_toPipe Post 28 [0, 1, 2]) (o_iconst (-11) <| o_iret Post)) (o_iconst (-32) <| o_iret Post)
theorem s_X_toPipe_6 {G : oG} {Post : oP} : oS G m_X_toPipe Post 6 (k_X_toPipe_6 G Post) := by
  unfold k_X_toPipe_6
  refine so_ifne d_X_toPipe_6 (tgt := 12) (by decide) ?_ ?_
  · refine so_aload_n d_X_toPipe_12 rfl ?_
    refine so_getf cl_7 (k := 16) (by decide) w_578 d_X_toPipe_13 ?_
    refine so_iload_n d_X_toPipe_16 rfl ?_
    refine so_iald d_X_toPipe_17 ?_
    refine so_bipush d_X_toPipe_18 rfl ?_
    refine so_icmpne d_X_toPipe_20 (tgt := 26) (by decide) ?_ ?_
    · refine so_iconst d_X_toPipe_26 rfl ?_
      refine so_istore_n d_X_toPipe_27 rfl (by decide) ?_
      exact so_jmp
    · refine so_bipush d_X_toPipe_23 rfl ?_
      exact so_iret d_X_toPipe_25 rfl
  · refine so_bipush d_X_toPipe_9 rfl ?_
    exact so_iret d_X_toPipe_11 rfl
def k_X_toPipe_28 (G : oG) (Post : oP) : oK := o_iload 2 <| o_aload 0 <| o_getf 7 23 <| o_icmpge (o_iload 2 <| o_iret Post) (o_aload 0 <| o_getf 7 16 <| o_iload 1 <| o_iald G <| o_iconst 8 <| o_icmpge (o_iload 2 <| o_iret Post) (o_aload 0 <| o_getf 7 17 <| o_iconst 8 <| o_iload 1 <| o_imul <| o_aload 0 <| o_getf 7 16 <| o_iload 1 <| o_iald G <| o_iadd <| o_aload 0 <| o_getf 7 25 <| o_iload 2 <| o_iald G <| o_iast <| o_aload 0 <| o_getf 7 16 <| o_iload 1 <| o_dup2 <| o_iald G <| o_iconst 1 <| o_iadd <| o_iast <| o_iinc 2 1 <| o_jmp G m_X_toPipe Post 28 [0, 1, 2]))
theorem s_X_toPipe_28 {G : oG} {Post : oP} : oS G m_X_toPipe Post 28 (k_X_toPipe_28 G Post) := by
  unfold k_X_toPipe_28
  refine so_iload_n d_X_toPipe_28 rfl ?_
  refine so_aload_n d_X_toPipe_29 rfl ?_
  refine so_getf cl_7 (k := 23) (by decide) w_585 d_X_toPipe_30 ?_
  refine so_icmpge d_X_toPipe_33 (tgt := 85) (by decide) ?_ ?_
  · refine so_iload_n d_X_toPipe_85 rfl ?_
    exact so_iret d_X_toPipe_86 rfl
  · refine so_aload_n d_X_toPipe_36 rfl ?_
    refine so_getf cl_7 (k := 16) (by decide) w_578 d_X_toPipe_37 ?_
    refine so_iload_n d_X_toPipe_40 rfl ?_
    refine so_iald d_X_toPipe_41 ?_
    refine so_bipush d_X_toPipe_42 rfl ?_
    refine so_icmpge d_X_toPipe_44 (tgt := 85) (by decide) ?_ ?_
    · refine so_iload_n d_X_toPipe_85 rfl ?_
      exact so_iret d_X_toPipe_86 rfl
    · refine so_aload_n d_X_toPipe_47 rfl ?_
      refine so_getf cl_7 (k := 17) (by decide) w_579 d_X_toPipe_48 ?_
      refine so_bipush d_X_toPipe_51 rfl ?_
      refine so_iload_n d_X_toPipe_53 rfl ?_
      refine so_imul d_X_toPipe_54 ?_
      refine so_aload_n d_X_toPipe_55 rfl ?_
      refine so_getf cl_7 (k := 16) (by decide) w_578 d_X_toPipe_56 ?_
      refine so_iload_n d_X_toPipe_59 rfl ?_
      refine so_iald d_X_toPipe_60 ?_
      refine so_iadd d_X_toPipe_61 ?_
      refine so_aload_n d_X_toPipe_62 rfl ?_
      refine so_getf cl_7 (k := 25) (by decide) w_587 d_X_toPipe_63 ?_
      refine so_iload_n d_X_toPipe_66 rfl ?_
      refine so_iald d_X_toPipe_67 ?_
      refine so_iast d_X_toPipe_68 ?_
      refine so_aload_n d_X_toPipe_69 rfl ?_
      refine so_getf cl_7 (k := 16) (by decide) w_578 d_X_toPipe_70 ?_
      refine so_iload_n d_X_toPipe_73 rfl ?_
      refine so_dup2 d_X_toPipe_74 ?_
      refine so_iald d_X_toPipe_75 ?_
      refine so_iconst d_X_toPipe_76 rfl ?_
      refine so_iadd d_X_toPipe_77 ?_
      refine so_iast d_X_toPipe_78 ?_
      refine so_iinc d_X_toPipe_79 rfl (by decide) ?_
      refine so_goto d_X_toPipe_82 (tgt := 28) (by decide) ?_
      exact so_jmp
theorem d_X_fromFile_0 : decode prog_9_method_41_code 0 = .ok (.aload_n 0, 1) := by decide +kernel
theorem d_X_fromFile_1 : decode prog_9_method_41_code 1 = .ok (.getfield 44, 3) := by decide +kernel
theorem d_X_fromFile_4 : decode prog_9_method_41_code 4 = .ok (.iload_n 1, 1) := by decide +kernel
theorem d_X_fromFile_5 : decode prog_9_method_41_code 5 = .ok (.iaload, 1) := by decide +kernel
theorem d_X_fromFile_6 : decode prog_9_method_41_code 6 = .ok (.istore_n 2, 1) := by decide +kernel
theorem d_X_fromFile_7 : decode prog_9_method_41_code 7 = .ok (.iconst 0, 1) := by decide +kernel
theorem d_X_fromFile_8 : decode prog_9_method_41_code 8 = .ok (.istore_n 3, 1) := by decide +kernel
theorem d_X_fromFile_9 : decode prog_9_method_41_code 9 = .ok (.iload_n 3, 1) := by decide +kernel
theorem d_X_fromFile_10 : decode prog_9_method_41_code 10 = .ok (.aload_n 0, 1) := by decide +kernel
theorem d_X_fromFile_11 : decode prog_9_method_41_code 11 = .ok (.getfield 162, 3) := by decide +kernel
theorem d_X_fromFile_14 : decode prog_9_method_41_code 14 = .ok (.if_icmp .ge 61, 3) := by decide +kernel
theorem d_X_fromFile_17 : decode prog_9_method_41_code 17 = .ok (.aload_n 0, 1) := by decide +kernel
theorem d_X_fromFile_18 : decode prog_9_method_41_code 18 = .ok (.getfield 47, 3) := by decide +kernel
theorem d_X_fromFile_21 : decode prog_9_method_41_code 21 = .ok (.iload_n 1, 1) := by decide +kernel
theorem d_X_fromFile_22 : decode prog_9_method_41_code 22 = .ok (.iaload, 1) := by decide +kernel
theorem d_X_fromFile_23 : decode prog_9_method_41_code 23 = .ok (.aload_n 0, 1) := by decide +kernel
theorem d_X_fromFile_24 : decode prog_9_method_41_code 24 = .ok (.getfield 26, 3) := by decide +kernel
theorem d_X_fromFile_27 : decode prog_9_method_41_code 27 = .ok (.iload_n 2, 1) := by decide +kernel
theorem d_X_fromFile_28 : decode prog_9_method_41_code 28 = .ok (.iaload, 1) := by decide +kernel
theorem d_X_fromFile_29 : decode prog_9_method_41_code 29 = .ok (.if_icmp .ge 46, 3) := by decide +kernel
theorem d_X_fromFile_32 : decode prog_9_method_41_code 32 = .ok (.aload_n 0, 1) := by decide +kernel
theorem d_X_fromFile_33 : decode prog_9_method_41_code 33 = .ok (.getfield 7, 3) := by decide +kernel
theorem d_X_fromFile_36 : decode prog_9_method_41_code 36 = .ok (.aload_n 0, 1) := by decide +kernel
theorem d_X_fromFile_37 : decode prog_9_method_41_code 37 = .ok (.getfield 65, 3) := by decide +kernel
theorem d_X_fromFile_40 : decode prog_9_method_41_code 40 = .ok (.iload_n 3, 1) := by decide +kernel
theorem d_X_fromFile_41 : decode prog_9_method_41_code 41 = .ok (.iaload, 1) := by decide +kernel
theorem d_X_fromFile_42 : decode prog_9_method_41_code 42 = .ok (.aload_n 0, 1) := by decide +kernel
theorem d_X_fromFile_43 : decode prog_9_method_41_code 43 = .ok (.getfield 29, 3) := by decide +kernel
theorem d_X_fromFile_46 : decode prog_9_method_41_code 46 = .ok (.bipush 24, 2) := by decide +kernel
theorem d_X_fromFile_48 : decode prog_9_method_41_code 48 = .ok (.iload_n 2, 1) := by decide +kernel
theorem d_X_fromFile_49 : decode prog_9_method_41_code 49 = .ok (.imul, 1) := by decide +kernel
theorem d_X_fromFile_50 : decode prog_9_method_41_code 50 = .ok (.aload_n 0, 1) := by decide +kernel
theorem d_X_fromFile_51 : decode prog_9_method_41_code 51 = .ok (.getfield 47, 3) := by decide +kernel
theorem d_X_fromFile_54 : decode prog_9_method_41_code 54 = .ok (.iload_n 1, 1) := by decide +kernel
theorem d_X_fromFile_55 : decode prog_9_method_41_code 55 = .ok (.iaload, 1) := by decide +kernel
theorem d_X_fromFile_56 : decode prog_9_method_41_code 56 = .ok (.iadd, 1) := by decide +kernel
theorem d_X_fromFile_57 : decode prog_9_method_41_code 57 = .ok (.iaload, 1) := by decide +kernel
theorem d_X_fromFile_58 : decode prog_9_method_41_code 58 = .ok (.iastore, 1) := by decide +kernel
theorem d_X_fromFile_59 : decode prog_9_method_41_code 59 = .ok (.aload_n 0, 1) := by decide +kernel
theorem d_X_fromFile_60 : decode prog_9_method_41_code 60 = .ok (.getfield 47, 3) := by decide +kernel
theorem d_X_fromFile_63 : decode prog_9_method_41_code 63 = .ok (.iload_n 1, 1) := by decide +kernel
theorem d_X_fromFile_64 : decode prog_9_method_41_code 64 = .ok (.dup2, 1) := by decide +kernel
theorem d_X_fromFile_65 : decode prog_9_method_41_code 65 = .ok (.iaload, 1) := by decide +kernel
theorem d_X_fromFile_66 : decode prog_9_method_41_code 66 = .ok (.iconst 1, 1) := by decide +kernel
theorem d_X_fromFile_67 : decode prog_9_method_41_code 67 = .ok (.iadd, 1) := by decide +kernel
theorem d_X_fromFile_68 : decode prog_9_method_41_code 68 = .ok (.iastore, 1) := by decide +kernel
theorem d_X_fromFile_69 : decode prog_9_method_41_code 69 = .ok (.iinc 3 1, 3) := by decide +kernel
theorem d_X_fromFile_72 : decode prog_9_method_41_code 72 = .ok (.goto (-63), 3) := by decide +kernel
theorem d_X_fromFile_75 : decode prog_9_method_41_code 75 = .ok (.iload_n 3, 1) := by decide +kernel
theorem d_X_fromFile_76 : decode prog_9_method_41_code 76 = .ok (.ireturn, 1) := by decide +kernel
def k_X_fromFile_0 (G : oG) (Post : oP) : oK := o_aload 0 <| o_getf 7 12 <| o_iload 1 <| o_iald G <| o_istore 2 <| o_iconst 0 <| o_istore 3 <| o_jmp G m_X_fromFile Post 9 [0, 1, 2, 3]
theorem s_X_fromFile_0 {G : oG} {Post : oP} : oS G m_X_fromFile Post 0 (k_X_fromFile_0 G Post) := by
  unfold k_X_fromFile_0
  refine so_aload_n d_X_fromFile_0 rfl ?_
  refine so_getf cl_7 (k := 12) (by decide) w_574 d_X_fromFile_1 ?_
  refine so_iload_n d_X_fromFile_4 rfl ?_
  refine so_iald d_X_fromFile_5 ?_
  refine so_istore_n d_X_fromFile_6 rfl (by decide) ?_
  refine so_iconst d_X_fromFile_7 rfl ?_
  refine so_istore_n d_X_fromFile_8 rfl (by decide) ?_
  exact so_jmp
def k_X_fromFile_9 (G : oG) (Post : oP) : oK := o_iload 3 <| o_aload 0 <| o_getf 7 23 <| o_icmpge (o_iload 3 <| o_iret Post) (o_aload 0 <| o_getf 7 13 <| o_iload 1 <| o_iald G <| o_aload 0 <| o_getf 7 6 <| o_iload 2 <| o_iald G <| o_icmpge (o_iload 3 <| o_iret Post) (o_aload 0 <| o_getf 7 0 <| o_aload 0 <| o_getf 7 24 <| o_iload 3 <| o_iald G <| o_aload 0 <| o_getf 7 7 <| o_iconst 24 <| o_iload 2 <| o_imul <| o_aload 0 <| o_getf 7 13 <| o_iload 1 <| o_iald G <| o_iadd <| o_iald G <| o_iast <| o_aload 0 <| o_getf 7 13 <| o_iload 1 <| o_dup2 <| o_iald G <| o_iconst 1 <| o_iadd <| o_iast <| o_iinc 3 1 <| o_jmp G m_X_fromFile Post 9 [0, 1, 2, 3]))
theorem s_X_fromFile_9 {G : oG} {Post : oP} : oS G m_X_fromFile Post 9 (k_X_fromFile_9 G Post) := by
  unfold k_X_fromFile_9
  refine so_iload_n d_X_fromFile_9 rfl ?_
  refine so_aload_n d_X_fromFile_10 rfl ?_
  refine so_getf cl_7 (k := 23) (by decide) w_585 d_X_fromFile_11 ?_
  refine so_icmpge d_X_fromFile_14 (tgt := 75) (by decide) ?_ ?_
  · refine so_iload_n d_X_fromFile_75 rfl ?_
    exact so_iret d_X_fromFile_76 rfl
  · refine so_aload_n d_X_fromFile_17 rfl ?_
    refine so_getf cl_7 (k := 13) (by decide) w_575 d_X_fromFile_18 ?_
    refine so_iload_n d_X_fromFile_21 rfl ?_
    refine so_iald d_X_fromFile_22 ?_
    refine so_aload_n d_X_fromFile_23 rfl ?_
    refine so_getf cl_7 (k := 6) (by decide) w_568 d_X_fromFile_24 ?_
    refine so_iload_n d_X_fromFile_27 rfl ?_
    refine so_iald d_X_fromFile_28 ?_
    refine so_icmpge d_X_fromFile_29 (tgt := 75) (by decide) ?_ ?_
    · refine so_iload_n d_X_fromFile_75 rfl ?_
      exact so_iret d_X_fromFile_76 rfl
    · refine so_aload_n d_X_fromFile_32 rfl ?_
      refine so_getf cl_7 (k := 0) (by decide) w_562 d_X_fromFile_33 ?_
      refine so_aload_n d_X_fromFile_36 rfl ?_
      refine so_getf cl_7 (k := 24) (by decide) w_586 d_X_fromFile_37 ?_
      refine so_iload_n d_X_fromFile_40 rfl ?_
      refine so_iald d_X_fromFile_41 ?_
      refine so_aload_n d_X_fromFile_42 rfl ?_
      refine so_getf cl_7 (k := 7) (by decide) w_569 d_X_fromFile_43 ?_
      refine so_bipush d_X_fromFile_46 rfl ?_
      refine so_iload_n d_X_fromFile_48 rfl ?_
      refine so_imul d_X_fromFile_49 ?_
      refine so_aload_n d_X_fromFile_50 rfl ?_
      refine so_getf cl_7 (k := 13) (by decide) w_575 d_X_fromFile_51 ?_
      refine so_iload_n d_X_fromFile_54 rfl ?_
      refine so_iald d_X_fromFile_55 ?_
      refine so_iadd d_X_fromFile_56 ?_
      refine so_iald d_X_fromFile_57 ?_
      refine so_iast d_X_fromFile_58 ?_
      refine so_aload_n d_X_fromFile_59 rfl ?_
      refine so_getf cl_7 (k := 13) (by decide) w_575 d_X_fromFile_60 ?_
      refine so_iload_n d_X_fromFile_63 rfl ?_
      refine so_dup2 d_X_fromFile_64 ?_
      refine so_iald d_X_fromFile_65 ?_
      refine so_iconst d_X_fromFile_66 rfl ?_
      refine so_iadd d_X_fromFile_67 ?_
      refine so_iast d_X_fromFile_68 ?_
      refine so_iinc d_X_fromFile_69 rfl (by decide) ?_
      refine so_goto d_X_fromFile_72 (tgt := 9) (by decide) ?_
      exact so_jmp
theorem d_X_fromPipe_0 : decode prog_9_method_43_code 0 = .ok (.aload_n 0, 1) := by decide +kernel
theorem d_X_fromPipe_1 : decode prog_9_method_43_code 1 = .ok (.getfield 56, 3) := by decide +kernel
theorem d_X_fromPipe_4 : decode prog_9_method_43_code 4 = .ok (.iload_n 1, 1) := by decide +kernel
theorem d_X_fromPipe_5 : decode prog_9_method_43_code 5 = .ok (.iaload, 1) := by decide +kernel
theorem d_X_fromPipe_6 : decode prog_9_method_43_code 6 = .ok (.ifCond .ne 19, 3) := by decide +kernel
theorem d_X_fromPipe_9 : decode prog_9_method_43_code 9 = .ok (.aload_n 0, 1) := by decide +kernel
theorem d_X_fromPipe_10 : decode prog_9_method_43_code 10 = .ok (.iconst 3, 1) := by decide +kernel
theorem d_X_fromPipe_11 : decode prog_9_method_43_code 11 = .ok (.iload_n 1, 1) := by decide +kernel
theorem d_X_fromPipe_12 : decode prog_9_method_43_code 12 = .ok (.invokevirtual 171, 3) := by decide +kernel
theorem d_X_fromPipe_15 : decode prog_9_method_43_code 15 = .ok (.ifCond .le 8, 3) := by decide +kernel
theorem d_X_fromPipe_18 : decode prog_9_method_43_code 18 = .ok (.bipush (-11), 2) := by decide +kernel
theorem d_X_fromPipe_20 : decode prog_9_method_43_code 20 = .ok (.goto 4, 3) := by decide +kernel
theorem d_X_fromPipe_23 : decode prog_9_method_43_code 23 = .ok (.iconst 0, 1) := by decide +kernel
theorem d_X_fromPipe_24 : decode prog_9_method_43_code 24 = .ok (.ireturn, 1) := by decide +kernel
theorem d_X_fromPipe_25 : decode prog_9_method_43_code 25 = .ok (.aload_n 0, 1) := by decide +kernel
theorem d_X_fromPipe_26 : decode prog_9_method_43_code 26 = .ok (.getfield 162, 3) := by decide +kernel
theorem d_X_fromPipe_29 : decode prog_9_method_43_code 29 = .ok (.aload_n 0, 1) := by decide +kernel
theorem d_X_fromPipe_30 : decode prog_9_method_43_code 30 = .ok (.getfield 56, 3) := by decide +kernel
theorem d_X_fromPipe_33 : decode prog_9_method_43_code 33 = .ok (.iload_n 1, 1) := by decide +kernel
theorem d_X_fromPipe_34 : decode prog_9_method_43_code 34 = .ok (.iaload, 1) := by decide +kernel
theorem d_X_fromPipe_35 : decode prog_9_method_43_code 35 = .ok (.if_icmp .ge 10, 3) := by decide +kernel
theorem d_X_fromPipe_38 : decode prog_9_method_43_code 38 = .ok (.aload_n 0, 1) := by decide +kernel
theorem d_X_fromPipe_39 : decode prog_9_method_43_code 39 = .ok (.getfield 162, 3) := by decide +kernel
theorem d_X_fromPipe_42 : decode prog_9_method_43_code 42 = .ok (.goto 9, 3) := by decide +kernel
theorem d_X_fromPipe_45 : decode prog_9_method_43_code 45 = .ok (.aload_n 0, 1) := by decide +kernel
theorem d_X_fromPipe_46 : decode prog_9_method_43_code 46 = .ok (.getfield 56, 3) := by decide +kernel
theorem d_X_fromPipe_49 : decode prog_9_method_43_code 49 = .ok (.iload_n 1, 1) := by decide +kernel
theorem d_X_fromPipe_50 : decode prog_9_method_43_code 50 = .ok (.iaload, 1) := by decide +kernel
theorem d_X_fromPipe_51 : decode prog_9_method_43_code 51 = .ok (.istore_n 2, 1) := by decide +kernel
theorem d_X_fromPipe_52 : decode prog_9_method_43_code 52 = .ok (.iconst 0, 1) := by decide +kernel
theorem d_X_fromPipe_53 : decode prog_9_method_43_code 53 = .ok (.istore_n 3, 1) := by decide +kernel
theorem d_X_fromPipe_54 : decode prog_9_method_43_code 54 = .ok (.iload_n 3, 1) := by decide +kernel
theorem d_X_fromPipe_55 : decode prog_9_method_43_code 55 = .ok (.iload_n 2, 1) := by decide +kernel
theorem d_X_fromPipe_56 : decode prog_9_method_43_code 56 = .ok (.if_icmp .ge 31, 3) := by decide +kernel
theorem d_X_fromPipe_59 : decode prog_9_method_43_code 59 = .ok (.aload_n 0, 1) := by decide +kernel
theorem d_X_fromPipe_60 : decode prog_9_method_43_code 60 = .ok (.getfield 7, 3) := by decide +kernel
theorem d_X_fromPipe_63 : decode prog_9_method_43_code 63 = .ok (.aload_n 0, 1) := by decide +kernel
theorem d_X_fromPipe_64 : decode prog_9_method_43_code 64 = .ok (.getfield 65, 3) := by decide +kernel
theorem d_X_fromPipe_67 : decode prog_9_method_43_code 67 = .ok (.iload_n 3, 1) := by decide +kernel
theorem d_X_fromPipe_68 : decode prog_9_method_43_code 68 = .ok (.iaload, 1) := by decide +kernel
theorem d_X_fromPipe_69 : decode prog_9_method_43_code 69 = .ok (.aload_n 0, 1) := by decide +kernel
theorem d_X_fromPipe_70 : decode prog_9_method_43_code 70 = .ok (.getfield 59, 3) := by decide +kernel
theorem d_X_fromPipe_73 : decode prog_9_method_43_code 73 = .ok (.bipush 8, 2) := by decide +kernel
theorem d_X_fromPipe_75 : decode prog_9_method_43_code 75 = .ok (.iload_n 1, 1) := by decide +kernel
theorem d_X_fromPipe_76 : decode prog_9_method_43_code 76 = .ok (.imul, 1) := by decide +kernel
theorem d_X_fromPipe_77 : decode prog_9_method_43_code 77 = .ok (.iload_n 3, 1) := by decide +kernel
theorem d_X_fromPipe_78 : decode prog_9_method_43_code 78 = .ok (.iadd, 1) := by decide +kernel
theorem d_X_fromPipe_79 : decode prog_9_method_43_code 79 = .ok (.iaload, 1) := by decide +kernel
theorem d_X_fromPipe_80 : decode prog_9_method_43_code 80 = .ok (.iastore, 1) := by decide +kernel
theorem d_X_fromPipe_81 : decode prog_9_method_43_code 81 = .ok (.iinc 3 1, 3) := by decide +kernel
theorem d_X_fromPipe_84 : decode prog_9_method_43_code 84 = .ok (.goto (-30), 3) := by decide +kernel
theorem d_X_fromPipe_87 : decode prog_9_method_43_code 87 = .ok (.iload_n 2, 1) := by decide +kernel
theorem d_X_fromPipe_88 : decode prog_9_method_43_code 88 = .ok (.istore_n 3, 1) := by decide +kernel
theorem d_X_fromPipe_89 : decode prog_9_method_43_code 89 = .ok (.iload_n 3, 1) := by decide +kernel
theorem d_X_fromPipe_90 : decode prog_9_method_43_code 90 = .ok (.aload_n 0, 1) := by decide +kernel
theorem d_X_fromPipe_91 : decode prog_9_method_43_code 91 = .ok (.getfield 56, 3) := by decide +kernel
theorem d_X_fromPipe_94 : decode prog_9_method_43_code 94 = .ok (.iload_n 1, 1) := by decide +kernel
theorem d_X_fromPipe_95 : decode prog_9_method_43_code 95 = .ok (.iaload, 1) := by decide +kernel
theorem d_X_fromPipe_96 : decode prog_9_method_43_code 96 = .ok (.if_icmp .ge 33, 3) := by decide +kernel
theorem d_X_fromPipe_99 : decode prog_9_method_43_code 99 = .ok (.aload_n 0, 1) := by decide +kernel
theorem d_X_fromPipe_100 : decode prog_9_method_43_code 100 = .ok (.getfield 59, 3) := by decide +kernel
theorem d_X_fromPipe_103 : decode prog_9_method_43_code 103 = .ok (.bipush 8, 2) := by decide +kernel
theorem d_X_fromPipe_105 : decode prog_9_method_43_code 105 = .ok (.iload_n 1, 1) := by decide +kernel
theorem d_X_fromPipe_106 : decode prog_9_method_43_code 106 = .ok (.imul, 1) := by decide +kernel
theorem d_X_fromPipe_107 : decode prog_9_method_43_code 107 = .ok (.iload_n 3, 1) := by decide +kernel
theorem d_X_fromPipe_108 : decode prog_9_method_43_code 108 = .ok (.iadd, 1) := by decide +kernel
theorem d_X_fromPipe_109 : decode prog_9_method_43_code 109 = .ok (.iload_n 2, 1) := by decide +kernel
theorem d_X_fromPipe_110 : decode prog_9_method_43_code 110 = .ok (.isub, 1) := by decide +kernel
theorem d_X_fromPipe_111 : decode prog_9_method_43_code 111 = .ok (.aload_n 0, 1) := by decide +kernel
theorem d_X_fromPipe_112 : decode prog_9_method_43_code 112 = .ok (.getfield 59, 3) := by decide +kernel
theorem d_X_fromPipe_115 : decode prog_9_method_43_code 115 = .ok (.bipush 8, 2) := by decide +kernel
theorem d_X_fromPipe_117 : decode prog_9_method_43_code 117 = .ok (.iload_n 1, 1) := by decide +kernel
theorem d_X_fromPipe_118 : decode prog_9_method_43_code 118 = .ok (.imul, 1) := by decide +kernel
theorem d_X_fromPipe_119 : decode prog_9_method_43_code 119 = .ok (.iload_n 3, 1) := by decide +kernel
theorem d_X_fromPipe_120 : decode prog_9_method_43_code 120 = .ok (.iadd, 1) := by decide +kernel
theorem d_X_fromPipe_121 : decode prog_9_method_43_code 121 = .ok (.iaload, 1) := by decide +kernel
theorem d_X_fromPipe_122 : decode prog_9_method_43_code 122 = .ok (.iastore, 1) := by decide +kernel
theorem d_X_fromPipe_123 : decode prog_9_method_43_code 123 = .ok (.iinc 3 1, 3) := by decide +kernel
theorem d_X_fromPipe_126 : decode prog_9_method_43_code 126 = .ok (.goto (-37), 3) := by decide +kernel
theorem d_X_fromPipe_129 : decode prog_9_method_43_code 129 = .ok (.aload_n 0, 1) := by decide +kernel
theorem d_X_fromPipe_130 : decode prog_9_method_43_code 130 = .ok (.getfield 56, 3) := by decide +kernel
theorem d_X_fromPipe_133 : decode prog_9_method_43_code 133 = .ok (.iload_n 1, 1) := by decide +kernel
theorem d_X_fromPipe_134 : decode prog_9_method_43_code 134 = .ok (.dup2, 1) := by decide +kernel
theorem d_X_fromPipe_135 : decode prog_9_method_43_code 135 = .ok (.iaload, 1) := by decide +kernel
theorem d_X_fromPipe_136 : decode prog_9_method_43_code 136 = .ok (.iload_n 2, 1) := by decide +kernel
theorem d_X_fromPipe_137 : decode prog_9_method_43_code 137 = .ok (.isub, 1) := by decide +kernel
theorem d_X_fromPipe_138 : decode prog_9_method_43_code 138 = .ok (.iastore, 1) := by decide +kernel
theorem d_X_fromPipe_139 : decode prog_9_method_43_code 139 = .ok (.iload_n 2, 1) := by decide +kernel
theorem d_X_fromPipe_140 : decode prog_9_method_43_code 140 = .ok (.ireturn, 1) := by decide +kernel
def k_X_fromPipe_0 (G : oG) (Post : oP) : oK := o_aload 0 <| o_getf 7 16 <| o_iload 1 <| o_iald G <| o_ifne (o_jmp G m_X_fromPipe Post 25 [0, 1]) (o_aload 0 <| o_iconst 3 <| o_iload 1 <| o_callV G 7 m_X_opensOf 2 <| o_jmp G m_X_fromPipe Post 15 [])
theorem s_X_fromPipe_0 {G : oG} {Post : oP} : oS G m_X_fromPipe Post 0 (k_X_fromPipe_0 G Post) := by
  unfold k_X_fromPipe_0
  refine so_aload_n d_X_fromPipe_0 rfl ?_
  refine so_getf cl_7 (k := 16) (by decide) w_578 d_X_fromPipe_1 ?_
  refine so_iload_n d_X_fromPipe_4 rfl ?_
  refine so_iald d_X_fromPipe_5 ?_
  refine so_ifne d_X_fromPipe_6 (tgt := 25) (by decide) ?_ ?_
  · exact so_jmp
  · refine so_aload_n d_X_fromPipe_9 rfl ?_
    refine so_iconst d_X_fromPipe_10 rfl ?_
    refine so_iload_n d_X_fromPipe_11 rfl ?_
    refine so_callV cl_7 f_X_opensOf w_775 w_50 w_773 (by decide) (by decide) d_X_fromPipe_12 ?_
    exact so_jmp
def k_X_fromPipe_15 (G : oG) (Post : oP) : oK := o_ifle (o_iconst 0 <| o_iret Post) (o_iconst (-11) <| o_iret Post)
theorem s_X_fromPipe_15 {G : oG} {Post : oP} : oS G m_X_fromPipe Post 15 (k_X_fromPipe_15 G Post) := by
  unfold k_X_fromPipe_15
  refine so_ifle d_X_fromPipe_15 (tgt := 23) (by decide) ?_ ?_
  · refine so_iconst d_X_fromPipe_23 rfl ?_
    exact so_iret d_X_fromPipe_24 rfl
  · refine so_bipush d_X_fromPipe_18 rfl ?_
    refine so_goto d_X_fromPipe_20 (tgt := 24) (by decide) ?_
    exact so_iret d_X_fromPipe_24 rfl
def k_X_fromPipe_25 (G : oG) (Post : oP) : oK := o_aload 0 <| o_getf 7 23 <| o_aload 0 <| o_getf 7 16 <| o_iload 1 <| o_iald G <| o_icmpge (o_aload 0 <| o_getf 7 16 <| o_iload 1 <| o_iald G <| o_istore 2 <| o_iconst 0 <| o_istore 3 <| o_jmp G m_X_fromPipe Post 54 [0, 1, 2, 3]) (o_aload 0 <| o_getf 7 23 <| o_istore 2 <| o_iconst 0 <| o_istore 3 <| o_jmp G m_X_fromPipe Post 54 [0, 1, 2, 3])
theorem s_X_fromPipe_25 {G : oG} {Post : oP} : oS G m_X_fromPipe Post 25 (k_X_fromPipe_25 G Post) := by
  unfold k_X_fromPipe_25
  refine so_aload_n d_X_fromPipe_25 rfl ?_
  refine so_getf cl_7 (k := 23) (by decide) w_585 d_X_fromPipe_26 ?_
  refine so_aload_n d_X_fromPipe_29 rfl ?_
  refine so_getf cl_7 (k := 16) (by decide) w_578 d_X_fromPipe_30 ?_
  refine so_iload_n d_X_fromPipe_33 rfl ?_
  refine so_iald d_X_fromPipe_34 ?_
  refine so_icmpge d_X_fromPipe_35 (tgt := 45) (by decide) ?_ ?_
  · refine so_aload_n d_X_fromPipe_45 rfl ?_
    refine so_getf cl_7 (k := 16) (by decide) w_578 d_X_fromPipe_46 ?_
    refine so_iload_n d_X_fromPipe_49 rfl ?_
    refine so_iald d_X_fromPipe_50 ?_
    refine so_istore_n d_X_fromPipe_51 rfl (by decide) ?_
    refine so_iconst d_X_fromPipe_52 rfl ?_
    refine so_istore_n d_X_fromPipe_53 rfl (by decide) ?_
    exact so_jmp
  · refine so_aload_n d_X_fromPipe_38 rfl ?_
    refine so_getf cl_7 (k := 23) (by decide) w_585 d_X_fromPipe_39 ?_
    refine so_goto d_X_fromPipe_42 (tgt := 51) (by decide) ?_
    refine so_istore_n d_X_fromPipe_51 rfl (by decide) ?_
    refine so_iconst d_X_fromPipe_52 rfl ?_
    refine so_istore_n d_X_fromPipe_53 rfl (by decide) ?_
    exact so_jmp
def k_X_fromPipe_54 (G : oG) (Post : oP) : oK := o_iload 3 <| o_iload 2 <| o_icmpge (o_iload 2 <| o_istore 3 <| o_jmp G m_X_fromPipe Post 89 [0, 1, 2, 3]) (o_aload 0 <| o_getf 7 0 <| o_aload 0 <| o_getf 7 24 <| o_iload 3 <| o_iald G <| o_aload 0 <| o_getf 7 17 <| o_iconst 8 <| o_iload 1 <| o_imul <| o_iload 3 <| o_iadd <| o_iald G <| o_iast <| o_iinc 3 1 <| o_jmp G m_X_fromPipe Post 54 [0, 1, 2, 3])
theorem s_X_fromPipe_54 {G : oG} {Post : oP} : oS G m_X_fromPipe Post 54 (k_X_fromPipe_54 G Post) := by
  unfold k_X_fromPipe_54
  refine so_iload_n d_X_fromPipe_54 rfl ?_
  refine so_iload_n d_X_fromPipe_55 rfl ?_
  refine so_icmpge d_X_fromPipe_56 (tgt := 87) (by decide) ?_ ?_
  · refine so_iload_n d_X_fromPipe_87 rfl ?_
    refine so_istore_n d_X_fromPipe_88 rfl (by decide) ?_
    exact so_jmp
  · refine so_aload_n d_X_fromPipe_59 rfl ?_
    refine so_getf cl_7 (k := 0) (by decide) w_562 d_X_fromPipe_60 ?_
    refine so_aload_n d_X_fromPipe_63 rfl ?_
    refine so_getf cl_7 (k := 24) (by decide) w_586 d_X_fromPipe_64 ?_
    refine so_iload_n d_X_fromPipe_67 rfl ?_
    refine so_iald d_X_fromPipe_68 ?_
    refine so_aload_n d_X_fromPipe_69 rfl ?_
    refine so_getf cl_7 (k := 17) (by decide) w_579 d_X_fromPipe_70 ?_
    refine so_bipush d_X_fromPipe_73 rfl ?_
    refine so_iload_n d_X_fromPipe_75 rfl ?_
    refine so_imul d_X_fromPipe_76 ?_
    refine so_iload_n d_X_fromPipe_77 rfl ?_
    refine so_iadd d_X_fromPipe_78 ?_
    refine so_iald d_X_fromPipe_79 ?_
    refine so_iast d_X_fromPipe_80 ?_
    refine so_iinc d_X_fromPipe_81 rfl (by decide) ?_
    refine so_goto d_X_fromPipe_84 (tgt := 54) (by decide) ?_
    exact so_jmp
def k_X_fromPipe_89 (G : oG) (Post : oP) : oK := o_iload 3 <| o_aload 0 <| o_getf 7 16 <| o_iload 1 <| o_iald G <| o_icmpge (o_aload 0 <| o_getf 7 16 <| o_iload 1 <| o_dup2 <| o_iald G <| o_iload 2 <| o_isub <| o_iast <| o_iload 2 <| o_iret Post) (o_aload 0 <| o_getf 7 17 <| o_iconst 8 <| o_iload 1 <| o_imul <| o_iload 3 <| o_iadd <| o_iload 2 <| o_isub <| o_aload 0 <| o_getf 7 17 <| o_iconst 8 <| o_iload 1 <| o_imul <| o_iload 3 <| o_iadd <| o_iald G <| o_iast <| o_iinc 3 1 <| o_jmp G m_X_fromPipe Post 89 [0, 1, 2, 3])
theorem s_X_fromPipe_89 {G : oG} {Post : oP} : oS G m_X_fromPipe Post 89 (k_X_fromPipe_89 G Post) := by
  unfold k_X_fromPipe_89
  refine so_iload_n d_X_fromPipe_89 rfl ?_
  refine so_aload_n d_X_fromPipe_90 rfl ?_
  refine so_getf cl_7 (k := 16) (by decide) w_578 d_X_fromPipe_91 ?_
  refine so_iload_n d_X_fromPipe_94 rfl ?_
  refine so_iald d_X_fromPipe_95 ?_
  refine so_icmpge d_X_fromPipe_96 (tgt := 129) (by decide) ?_ ?_
  · refine so_aload_n d_X_fromPipe_129 rfl ?_
    refine so_getf cl_7 (k := 16) (by decide) w_578 d_X_fromPipe_130 ?_
    refine so_iload_n d_X_fromPipe_133 rfl ?_
    refine so_dup2 d_X_fromPipe_134 ?_
    refine so_iald d_X_fromPipe_135 ?_
    refine so_iload_n d_X_fromPipe_136 rfl ?_
    refine so_isub d_X_fromPipe_137 ?_
    refine so_iast d_X_fromPipe_138 ?_
    refine so_iload_n d_X_fromPipe_139 rfl ?_
    exact so_iret d_X_fromPipe_140 rfl
  · refine so_aload_n d_X_fromPipe_99 rfl ?_
    refine so_getf cl_7 (k := 17) (by decide) w_579 d_X_fromPipe_100 ?_
    refine so_bipush d_X_fromPipe_103 rfl ?_
    refine so_iload_n d_X_fromPipe_105 rfl ?_
    refine so_imul d_X_fromPipe_106 ?_
    refine so_iload_n d_X_fromPipe_107 rfl ?_
    refine so_iadd d_X_fromPipe_108 ?_
    refine so_iload_n d_X_fromPipe_109 rfl ?_
    refine so_isub d_X_fromPipe_110 ?_
    refine so_aload_n d_X_fromPipe_111 rfl ?_
    refine so_getf cl_7 (k := 17) (by decide) w_579 d_X_fromPipe_112 ?_
    refine so_bipush d_X_fromPipe_115 rfl ?_
    refine so_iload_n d_X_fromPipe_117 rfl ?_
    refine so_imul d_X_fromPipe_118 ?_
    refine so_iload_n d_X_fromPipe_119 rfl ?_
    refine so_iadd d_X_fromPipe_120 ?_
    refine so_iald d_X_fromPipe_121 ?_
    refine so_iast d_X_fromPipe_122 ?_
    refine so_iinc d_X_fromPipe_123 rfl (by decide) ?_
    refine so_goto d_X_fromPipe_126 (tgt := 89) (by decide) ?_
    exact so_jmp
theorem d_X_transfer_0 : decode prog_9_method_40_code 0 = .ok (.aload_n 0, 1) := by decide +kernel
theorem d_X_transfer_1 : decode prog_9_method_40_code 1 = .ok (.getfield 102, 3) := by decide +kernel
theorem d_X_transfer_4 : decode prog_9_method_40_code 4 = .ok (.ifCond .lt 20, 3) := by decide +kernel
theorem d_X_transfer_7 : decode prog_9_method_40_code 7 = .ok (.aload_n 0, 1) := by decide +kernel
theorem d_X_transfer_8 : decode prog_9_method_40_code 8 = .ok (.getfield 102, 3) := by decide +kernel
theorem d_X_transfer_11 : decode prog_9_method_40_code 11 = .ok (.iload_n 2, 1) := by decide +kernel
theorem d_X_transfer_12 : decode prog_9_method_40_code 12 = .ok (.ifCond .eq 7, 3) := by decide +kernel
theorem d_X_transfer_15 : decode prog_9_method_40_code 15 = .ok (.iconst 4, 1) := by decide +kernel
theorem d_X_transfer_16 : decode prog_9_method_40_code 16 = .ok (.goto 5, 3) := by decide +kernel
theorem d_X_transfer_19 : decode prog_9_method_40_code 19 = .ok (.bipush 64, 2) := by decide +kernel
theorem d_X_transfer_21 : decode prog_9_method_40_code 21 = .ok (.if_icmp .le 6, 3) := by decide +kernel
theorem d_X_transfer_24 : decode prog_9_method_40_code 24 = .ok (.bipush (-22), 2) := by decide +kernel
theorem d_X_transfer_26 : decode prog_9_method_40_code 26 = .ok (.ireturn, 1) := by decide +kernel
theorem d_X_transfer_27 : decode prog_9_method_40_code 27 = .ok (.aload_n 0, 1) := by decide +kernel
theorem d_X_transfer_28 : decode prog_9_method_40_code 28 = .ok (.invokevirtual 200, 3) := by decide +kernel
theorem d_X_transfer_31 : decode prog_9_method_40_code 31 = .ok (.istore_n 3, 1) := by decide +kernel
theorem d_X_transfer_32 : decode prog_9_method_40_code 32 = .ok (.iload_n 3, 1) := by decide +kernel
theorem d_X_transfer_33 : decode prog_9_method_40_code 33 = .ok (.ifCond .lt 50, 3) := by decide +kernel
theorem d_X_transfer_36 : decode prog_9_method_40_code 36 = .ok (.aload_n 0, 1) := by decide +kernel
theorem d_X_transfer_37 : decode prog_9_method_40_code 37 = .ok (.getfield 41, 3) := by decide +kernel
theorem d_X_transfer_40 : decode prog_9_method_40_code 40 = .ok (.iload_n 3, 1) := by decide +kernel
theorem d_X_transfer_41 : decode prog_9_method_40_code 41 = .ok (.iaload, 1) := by decide +kernel
theorem d_X_transfer_42 : decode prog_9_method_40_code 42 = .ok (.iload_n 1, 1) := by decide +kernel
theorem d_X_transfer_43 : decode prog_9_method_40_code 43 = .ok (.ifCond .eq 7, 3) := by decide +kernel
theorem d_X_transfer_46 : decode prog_9_method_40_code 46 = .ok (.iconst 2, 1) := by decide +kernel
theorem d_X_transfer_47 : decode prog_9_method_40_code 47 = .ok (.goto 4, 3) := by decide +kernel
theorem d_X_transfer_50 : decode prog_9_method_40_code 50 = .ok (.iconst 3, 1) := by decide +kernel
theorem d_X_transfer_51 : decode prog_9_method_40_code 51 = .ok (.if_icmp .eq 32, 3) := by decide +kernel
theorem d_X_transfer_54 : decode prog_9_method_40_code 54 = .ok (.aload_n 0, 1) := by decide +kernel
theorem d_X_transfer_55 : decode prog_9_method_40_code 55 = .ok (.getfield 41, 3) := by decide +kernel
theorem d_X_transfer_58 : decode prog_9_method_40_code 58 = .ok (.iload_n 3, 1) := by decide +kernel
theorem d_X_transfer_59 : decode prog_9_method_40_code 59 = .ok (.iaload, 1) := by decide +kernel
theorem d_X_transfer_60 : decode prog_9_method_40_code 60 = .ok (.iconst 1, 1) := by decide +kernel
theorem d_X_transfer_61 : decode prog_9_method_40_code 61 = .ok (.if_icmp .ne 25, 3) := by decide +kernel
theorem d_X_transfer_64 : decode prog_9_method_40_code 64 = .ok (.aload_n 0, 1) := by decide +kernel
theorem d_X_transfer_65 : decode prog_9_method_40_code 65 = .ok (.getfield 50, 3) := by decide +kernel
theorem d_X_transfer_68 : decode prog_9_method_40_code 68 = .ok (.iload_n 3, 1) := by decide +kernel
theorem d_X_transfer_69 : decode prog_9_method_40_code 69 = .ok (.iaload, 1) := by decide +kernel
theorem d_X_transfer_70 : decode prog_9_method_40_code 70 = .ok (.iload_n 1, 1) := by decide +kernel
theorem d_X_transfer_71 : decode prog_9_method_40_code 71 = .ok (.ifCond .eq 7, 3) := by decide +kernel
theorem d_X_transfer_74 : decode prog_9_method_40_code 74 = .ok (.iconst 2, 1) := by decide +kernel
theorem d_X_transfer_75 : decode prog_9_method_40_code 75 = .ok (.goto 4, 3) := by decide +kernel
theorem d_X_transfer_78 : decode prog_9_method_40_code 78 = .ok (.iconst 1, 1) := by decide +kernel
theorem d_X_transfer_79 : decode prog_9_method_40_code 79 = .ok (.iand, 1) := by decide +kernel
theorem d_X_transfer_80 : decode prog_9_method_40_code 80 = .ok (.ifCond .ne 6, 3) := by decide +kernel
theorem d_X_transfer_83 : decode prog_9_method_40_code 83 = .ok (.bipush (-9), 2) := by decide +kernel
theorem d_X_transfer_85 : decode prog_9_method_40_code 85 = .ok (.ireturn, 1) := by decide +kernel
theorem d_X_transfer_86 : decode prog_9_method_40_code 86 = .ok (.aload_n 0, 1) := by decide +kernel
theorem d_X_transfer_87 : decode prog_9_method_40_code 87 = .ok (.iload_n 1, 1) := by decide +kernel
theorem d_X_transfer_88 : decode prog_9_method_40_code 88 = .ok (.iload_n 2, 1) := by decide +kernel
theorem d_X_transfer_89 : decode prog_9_method_40_code 89 = .ok (.invokevirtual 210, 3) := by decide +kernel
theorem d_X_transfer_92 : decode prog_9_method_40_code 92 = .ok (.ifCond .ne 6, 3) := by decide +kernel
theorem d_X_transfer_95 : decode prog_9_method_40_code 95 = .ok (.bipush (-14), 2) := by decide +kernel
theorem d_X_transfer_97 : decode prog_9_method_40_code 97 = .ok (.ireturn, 1) := by decide +kernel
theorem d_X_transfer_98 : decode prog_9_method_40_code 98 = .ok (.aload_n 0, 1) := by decide +kernel
theorem d_X_transfer_99 : decode prog_9_method_40_code 99 = .ok (.getfield 162, 3) := by decide +kernel
theorem d_X_transfer_102 : decode prog_9_method_40_code 102 = .ok (.ifCond .ne 5, 3) := by decide +kernel
theorem d_X_transfer_105 : decode prog_9_method_40_code 105 = .ok (.iconst 0, 1) := by decide +kernel
theorem d_X_transfer_106 : decode prog_9_method_40_code 106 = .ok (.ireturn, 1) := by decide +kernel
theorem d_X_transfer_107 : decode prog_9_method_40_code 107 = .ok (.iload_n 1, 1) := by decide +kernel
theorem d_X_transfer_108 : decode prog_9_method_40_code 108 = .ok (.ifCond .eq 36, 3) := by decide +kernel
theorem d_X_transfer_111 : decode prog_9_method_40_code 111 = .ok (.aload_n 0, 1) := by decide +kernel
theorem d_X_transfer_112 : decode prog_9_method_40_code 112 = .ok (.invokevirtual 207, 3) := by decide +kernel
theorem d_X_transfer_115 : decode prog_9_method_40_code 115 = .ok (.aload_n 0, 1) := by decide +kernel
theorem d_X_transfer_116 : decode prog_9_method_40_code 116 = .ok (.getfield 41, 3) := by decide +kernel
theorem d_X_transfer_119 : decode prog_9_method_40_code 119 = .ok (.iload_n 3, 1) := by decide +kernel
theorem d_X_transfer_120 : decode prog_9_method_40_code 120 = .ok (.iaload, 1) := by decide +kernel
theorem d_X_transfer_121 : decode prog_9_method_40_code 121 = .ok (.iconst 1, 1) := by decide +kernel
theorem d_X_transfer_122 : decode prog_9_method_40_code 122 = .ok (.if_icmp .ne 11, 3) := by decide +kernel
theorem d_X_transfer_125 : decode prog_9_method_40_code 125 = .ok (.aload_n 0, 1) := by decide +kernel
theorem d_X_transfer_126 : decode prog_9_method_40_code 126 = .ok (.iload_n 3, 1) := by decide +kernel
theorem d_X_transfer_127 : decode prog_9_method_40_code 127 = .ok (.invokevirtual 214, 3) := by decide +kernel
theorem d_X_transfer_130 : decode prog_9_method_40_code 130 = .ok (.goto 13, 3) := by decide +kernel
theorem d_X_transfer_133 : decode prog_9_method_40_code 133 = .ok (.aload_n 0, 1) := by decide +kernel
theorem d_X_transfer_134 : decode prog_9_method_40_code 134 = .ok (.aload_n 0, 1) := by decide +kernel
theorem d_X_transfer_135 : decode prog_9_method_40_code 135 = .ok (.getfield 44, 3) := by decide +kernel
theorem d_X_transfer_138 : decode prog_9_method_40_code 138 = .ok (.iload_n 3, 1) := by decide +kernel
theorem d_X_transfer_139 : decode prog_9_method_40_code 139 = .ok (.iaload, 1) := by decide +kernel
theorem d_X_transfer_140 : decode prog_9_method_40_code 140 = .ok (.invokevirtual 217, 3) := by decide +kernel
theorem d_X_transfer_143 : decode prog_9_method_40_code 143 = .ok (.ireturn, 1) := by decide +kernel
theorem d_X_transfer_144 : decode prog_9_method_40_code 144 = .ok (.aload_n 0, 1) := by decide +kernel
theorem d_X_transfer_145 : decode prog_9_method_40_code 145 = .ok (.getfield 41, 3) := by decide +kernel
theorem d_X_transfer_148 : decode prog_9_method_40_code 148 = .ok (.iload_n 3, 1) := by decide +kernel
theorem d_X_transfer_149 : decode prog_9_method_40_code 149 = .ok (.iaload, 1) := by decide +kernel
theorem d_X_transfer_150 : decode prog_9_method_40_code 150 = .ok (.iconst 1, 1) := by decide +kernel
theorem d_X_transfer_151 : decode prog_9_method_40_code 151 = .ok (.if_icmp .ne 11, 3) := by decide +kernel
theorem d_X_transfer_154 : decode prog_9_method_40_code 154 = .ok (.aload_n 0, 1) := by decide +kernel
theorem d_X_transfer_155 : decode prog_9_method_40_code 155 = .ok (.iload_n 3, 1) := by decide +kernel
theorem d_X_transfer_156 : decode prog_9_method_40_code 156 = .ok (.invokevirtual 220, 3) := by decide +kernel
theorem d_X_transfer_159 : decode prog_9_method_40_code 159 = .ok (.goto 13, 3) := by decide +kernel
theorem d_X_transfer_162 : decode prog_9_method_40_code 162 = .ok (.aload_n 0, 1) := by decide +kernel
theorem d_X_transfer_163 : decode prog_9_method_40_code 163 = .ok (.aload_n 0, 1) := by decide +kernel
theorem d_X_transfer_164 : decode prog_9_method_40_code 164 = .ok (.getfield 44, 3) := by decide +kernel
theorem d_X_transfer_167 : decode prog_9_method_40_code 167 = .ok (.iload_n 3, 1) := by decide +kernel
theorem d_X_transfer_168 : decode prog_9_method_40_code 168 = .ok (.iaload, 1) := by decide +kernel
theorem d_X_transfer_169 : decode prog_9_method_40_code 169 = .ok (.invokevirtual 223, 3) := by decide +kernel
theorem d_X_transfer_172 : decode prog_9_method_40_code 172 = .ok (.ireturn, 1) := by decide +kernel
def k_X_transfer_0 (G : oG) (Post : oP) : oK := o_aload 0 <| o_getf 7 22 <| o_iflt (o_iconst (-22) <| o_iret Post) (o_aload 0 <| o_getf 7 22 <| o_iload 2 <| o_ifeq (o_iconst 64 <| o_icmple (o_aload 0 <| o_callV G 7 m_X_opened 0 <| o_jmp G m_X_transfer Post 31 [0, 1, 2]) (o_iconst (-22) <| o_iret Post)) (o_iconst 4 <| o_icmple (o_aload 0 <| o_callV G 7 m_X_opened 0 <| o_jmp G m_X_transfer Post 31 [0, 1, 2]) (o_iconst (-22) <| o_iret Post)))
theorem s_X_transfer_0 {G : oG} {Post : oP} : oS G m_X_transfer Post 0 (k_X_transfer_0 G Post) := by
  unfold k_X_transfer_0
  refine so_aload_n d_X_transfer_0 rfl ?_
  refine so_getf cl_7 (k := 22) (by decide) w_584 d_X_transfer_1 ?_
  refine so_iflt d_X_transfer_4 (tgt := 24) (by decide) ?_ ?_
  · refine so_bipush d_X_transfer_24 rfl ?_
    exact so_iret d_X_transfer_26 rfl
  · refine so_aload_n d_X_transfer_7 rfl ?_
    refine so_getf cl_7 (k := 22) (by decide) w_584 d_X_transfer_8 ?_
    refine so_iload_n d_X_transfer_11 rfl ?_
    refine so_ifeq d_X_transfer_12 (tgt := 19) (by decide) ?_ ?_
    · refine so_bipush d_X_transfer_19 rfl ?_
      refine so_icmple d_X_transfer_21 (tgt := 27) (by decide) ?_ ?_
      · refine so_aload_n d_X_transfer_27 rfl ?_
        refine so_callV cl_7 f_X_opened w_747 w_43 w_745 (by decide) (by decide) d_X_transfer_28 ?_
        exact so_jmp
      · refine so_bipush d_X_transfer_24 rfl ?_
        exact so_iret d_X_transfer_26 rfl
    · refine so_iconst d_X_transfer_15 rfl ?_
      refine so_goto d_X_transfer_16 (tgt := 21) (by decide) ?_
      refine so_icmple d_X_transfer_21 (tgt := 27) (by decide) ?_ ?_
      · refine so_aload_n d_X_transfer_27 rfl ?_
        refine so_callV cl_7 f_X_opened w_747 w_43 w_745 (by decide) (by decide) d_X_transfer_28 ?_
        exact so_jmp
      · refine so_bipush d_X_transfer_24 rfl ?_
        exact so_iret d_X_transfer_26 rfl
def k_X_transfer_31 (G : oG) (Post : oP) : oK := o_istore 3 <| o_iload 3 <| o_iflt (o_iconst (-9) <| o_iret Post) (o_aload 0 <| o_getf 7 11 <| o_iload 3 <| o_iald G <| o_iload 1 <| o_ifeq (o_jmp G m_X_transfer Post 50 [0, 1, 2, 3]) (o_iconst 2 <| o_jmp G m_X_transfer Post 51 [0, 1, 2, 3]))
theorem s_X_transfer_31 {G : oG} {Post : oP} : oS G m_X_transfer Post 31 (k_X_transfer_31 G Post) := by
  unfold k_X_transfer_31
  refine so_istore_n d_X_transfer_31 rfl (by decide) ?_
  refine so_iload_n d_X_transfer_32 rfl ?_
  refine so_iflt d_X_transfer_33 (tgt := 83) (by decide) ?_ ?_
  · refine so_bipush d_X_transfer_83 rfl ?_
    exact so_iret d_X_transfer_85 rfl
  · refine so_aload_n d_X_transfer_36 rfl ?_
    refine so_getf cl_7 (k := 11) (by decide) w_573 d_X_transfer_37 ?_
    refine so_iload_n d_X_transfer_40 rfl ?_
    refine so_iald d_X_transfer_41 ?_
    refine so_iload_n d_X_transfer_42 rfl ?_
    refine so_ifeq d_X_transfer_43 (tgt := 50) (by decide) ?_ ?_
    · exact so_jmp
    · refine so_iconst d_X_transfer_46 rfl ?_
      refine so_goto d_X_transfer_47 (tgt := 51) (by decide) ?_
      exact so_jmp
def k_X_transfer_50 (G : oG) (Post : oP) : oK := o_iconst 3 <| o_jmp G m_X_transfer Post 51 [0, 1, 2, 3]
theorem s_X_transfer_50 {G : oG} {Post : oP} : oS G m_X_transfer Post 50 (k_X_transfer_50 G Post) := by
  unfold k_X_transfer_50
  refine so_iconst d_X_transfer_50 rfl ?_
  exact so_jmp
def k_X_transfer_51 (G : oG) (Post : oP) : oK := o_icmpeq (o_iconst (-9) <| o_iret Post) (o_aload 0 <| o_getf 7 11 <| o_iload 3 <| o_iald G <| o_iconst 1 <| o_icmpne (o_aload 0 <| o_iload 1 <| o_iload 2 <| o_callV G 7 m_X_gather 2 <| o_jmp G m_X_transfer Post 92 [0, 1, 3]) (o_aload 0 <| o_getf 7 14 <| o_iload 3 <| o_iald G <| o_iload 1 <| o_ifeq (o_iconst 1 <| o_iand <| o_ifne (o_aload 0 <| o_iload 1 <| o_iload 2 <| o_callV G 7 m_X_gather 2 <| o_jmp G m_X_transfer Post 92 [0, 1, 3]) (o_iconst (-9) <| o_iret Post)) (o_iconst 2 <| o_iand <| o_ifne (o_aload 0 <| o_iload 1 <| o_iload 2 <| o_callV G 7 m_X_gather 2 <| o_jmp G m_X_transfer Post 92 [0, 1, 3]) (o_iconst (-9) <| o_iret Post))))
theorem s_X_transfer_51 {G : oG} {Post : oP} : oS G m_X_transfer Post 51 (k_X_transfer_51 G Post) := by
  unfold k_X_transfer_51
  refine so_icmpeq d_X_transfer_51 (tgt := 83) (by decide) ?_ ?_
  · refine so_bipush d_X_transfer_83 rfl ?_
    exact so_iret d_X_transfer_85 rfl
  · refine so_aload_n d_X_transfer_54 rfl ?_
    refine so_getf cl_7 (k := 11) (by decide) w_573 d_X_transfer_55 ?_
    refine so_iload_n d_X_transfer_58 rfl ?_
    refine so_iald d_X_transfer_59 ?_
    refine so_iconst d_X_transfer_60 rfl ?_
    refine so_icmpne d_X_transfer_61 (tgt := 86) (by decide) ?_ ?_
    · refine so_aload_n d_X_transfer_86 rfl ?_
      refine so_iload_n d_X_transfer_87 rfl ?_
      refine so_iload_n d_X_transfer_88 rfl ?_
      refine so_callV cl_7 f_X_gather w_755 w_45 w_753 (by decide) (by decide) d_X_transfer_89 ?_
      exact so_jmp
    · refine so_aload_n d_X_transfer_64 rfl ?_
      refine so_getf cl_7 (k := 14) (by decide) w_576 d_X_transfer_65 ?_
      refine so_iload_n d_X_transfer_68 rfl ?_
      refine so_iald d_X_transfer_69 ?_
      refine so_iload_n d_X_transfer_70 rfl ?_
      refine so_ifeq d_X_transfer_71 (tgt := 78) (by decide) ?_ ?_
      · refine so_iconst d_X_transfer_78 rfl ?_
        refine so_iand d_X_transfer_79 ?_
        refine so_ifne d_X_transfer_80 (tgt := 86) (by decide) ?_ ?_
        · refine so_aload_n d_X_transfer_86 rfl ?_
          refine so_iload_n d_X_transfer_87 rfl ?_
          refine so_iload_n d_X_transfer_88 rfl ?_
          refine so_callV cl_7 f_X_gather w_755 w_45 w_753 (by decide) (by decide) d_X_transfer_89 ?_
          exact so_jmp
        · refine so_bipush d_X_transfer_83 rfl ?_
          exact so_iret d_X_transfer_85 rfl
      · refine so_iconst d_X_transfer_74 rfl ?_
        refine so_goto d_X_transfer_75 (tgt := 79) (by decide) ?_
        refine so_iand d_X_transfer_79 ?_
        refine so_ifne d_X_transfer_80 (tgt := 86) (by decide) ?_ ?_
        · refine so_aload_n d_X_transfer_86 rfl ?_
          refine so_iload_n d_X_transfer_87 rfl ?_
          refine so_iload_n d_X_transfer_88 rfl ?_
          refine so_callV cl_7 f_X_gather w_755 w_45 w_753 (by decide) (by decide) d_X_transfer_89 ?_
          exact so_jmp
        · refine so_bipush d_X_transfer_83 rfl ?_
          exact so_iret d_X_transfer_85 rfl
def k_X_transfer_92 (G : oG) (Post : oP) : oK := o_ifne (o_jmp G m_X_transfer Post 98 [0, 1, 3]) (o_iconst (-14) <| o_iret Post)
theorem s_X_transfer_92 {G : oG} {Post : oP} : oS G m_X_transfer Post 92 (k_X_transfer_92 G Post) := by
  unfold k_X_transfer_92
  refine so_ifne d_X_transfer_92 (tgt := 98) (by decide) ?_ ?_
  · exact so_jmp
  · refine so_bipush d_X_transfer_95 rfl ?_
    exact so_iret d_X_transfer_97 rfl
def k_X_transfer_98 (G : oG) (Post : oP) : oK := o_aload 0 <| o_getf 7 23 <| o_ifne (o_jmp G m_X_transfer Post 107 [0, 1, 3]) (o_iconst 0 <| o_iret Post)
theorem s_X_transfer_98 {G : oG} {Post : oP} : oS G m_X_transfer Post 98 (k_X_transfer_98 G Post) := by
  unfold k_X_transfer_98
  refine so_aload_n d_X_transfer_98 rfl ?_
  refine so_getf cl_7 (k := 23) (by decide) w_585 d_X_transfer_99 ?_
  refine so_ifne d_X_transfer_102 (tgt := 107) (by decide) ?_ ?_
  · exact so_jmp
  · refine so_iconst d_X_transfer_105 rfl ?_
    exact so_iret d_X_transfer_106 rfl
def k_X_transfer_107 (G : oG) (Post : oP) : oK := o_iload 1 <| o_ifeq (o_jmp G m_X_transfer Post 144 [0, 3]) (o_aload 0 <| o_callV G 7 m_X_take 0 <| o_jmp G m_X_transfer Post 115 [0, 3])
theorem s_X_transfer_107 {G : oG} {Post : oP} : oS G m_X_transfer Post 107 (k_X_transfer_107 G Post) := by
  unfold k_X_transfer_107
  refine so_iload_n d_X_transfer_107 rfl ?_
  refine so_ifeq d_X_transfer_108 (tgt := 144) (by decide) ?_ ?_
  · exact so_jmp
  · refine so_aload_n d_X_transfer_111 rfl ?_
    refine so_callV cl_7 f_X_take w_763 w_47 w_761 (by decide) (by decide) d_X_transfer_112 ?_
    exact so_jmp
def k_X_transfer_115 (G : oG) (Post : oP) : oK := o_aload 0 <| o_getf 7 11 <| o_iload 3 <| o_iald G <| o_iconst 1 <| o_icmpne (o_aload 0 <| o_aload 0 <| o_getf 7 12 <| o_iload 3 <| o_iald G <| o_callV G 7 m_X_toPipe 1 <| o_jmp G m_X_transfer Post 143 []) (o_aload 0 <| o_iload 3 <| o_callV G 7 m_X_toFile 1 <| o_jmp G m_X_transfer Post 130 [])
theorem s_X_transfer_115 {G : oG} {Post : oP} : oS G m_X_transfer Post 115 (k_X_transfer_115 G Post) := by
  unfold k_X_transfer_115
  refine so_aload_n d_X_transfer_115 rfl ?_
  refine so_getf cl_7 (k := 11) (by decide) w_573 d_X_transfer_116 ?_
  refine so_iload_n d_X_transfer_119 rfl ?_
  refine so_iald d_X_transfer_120 ?_
  refine so_iconst d_X_transfer_121 rfl ?_
  refine so_icmpne d_X_transfer_122 (tgt := 133) (by decide) ?_ ?_
  · refine so_aload_n d_X_transfer_133 rfl ?_
    refine so_aload_n d_X_transfer_134 rfl ?_
    refine so_getf cl_7 (k := 12) (by decide) w_574 d_X_transfer_135 ?_
    refine so_iload_n d_X_transfer_138 rfl ?_
    refine so_iald d_X_transfer_139 ?_
    refine so_callV cl_7 f_X_toPipe w_771 w_49 w_769 (by decide) (by decide) d_X_transfer_140 ?_
    exact so_jmp
  · refine so_aload_n d_X_transfer_125 rfl ?_
    refine so_iload_n d_X_transfer_126 rfl ?_
    refine so_callV cl_7 f_X_toFile w_767 w_48 w_765 (by decide) (by decide) d_X_transfer_127 ?_
    exact so_jmp
def k_X_transfer_130 (G : oG) (Post : oP) : oK := o_jmp G m_X_transfer Post 143 []
theorem s_X_transfer_130 {G : oG} {Post : oP} : oS G m_X_transfer Post 130 (k_X_transfer_130 G Post) := by
  unfold k_X_transfer_130
  refine so_goto d_X_transfer_130 (tgt := 143) (by decide) ?_
  exact so_jmp
def k_X_transfer_143 (G : oG) (Post : oP) : oK := o_iret Post
theorem s_X_transfer_143 {G : oG} {Post : oP} : oS G m_X_transfer Post 143 (k_X_transfer_143 G Post) := by
  unfold k_X_transfer_143
  exact so_iret d_X_transfer_143 rfl
def k_X_transfer_144 (G : oG) (Post : oP) : oK := o_aload 0 <| o_getf 7 11 <| o_iload 3 <| o_iald G <| o_iconst 1 <| o_icmpne (o_aload 0 <| o_aload 0 <| o_getf 7 12 <| o_iload 3 <| o_iald G <| o_callV G 7 m_X_fromPipe 1 <| o_jmp G m_X_transfer Post 172 []) (o_aload 0 <| o_iload 3 <| o_callV G 7 m_X_fromFile 1 <| o_jmp G m_X_transfer Post 159 [])
theorem s_X_transfer_144 {G : oG} {Post : oP} : oS G m_X_transfer Post 144 (k_X_transfer_144 G Post) := by
  unfold k_X_transfer_144
  refine so_aload_n d_X_transfer_144 rfl ?_
  refine so_getf cl_7 (k := 11) (by decide) w_573 d_X_transfer_145 ?_
  refine so_iload_n d_X_transfer_148 rfl ?_
  refine so_iald d_X_transfer_149 ?_
  refine so_iconst d_X_transfer_150 rfl ?_
  refine so_icmpne d_X_transfer_151 (tgt := 162) (by decide) ?_ ?_
  · refine so_aload_n d_X_transfer_162 rfl ?_
    refine so_aload_n d_X_transfer_163 rfl ?_
    refine so_getf cl_7 (k := 12) (by decide) w_574 d_X_transfer_164 ?_
    refine so_iload_n d_X_transfer_167 rfl ?_
    refine so_iald d_X_transfer_168 ?_
    refine so_callV cl_7 f_X_fromPipe w_783 w_52 w_781 (by decide) (by decide) d_X_transfer_169 ?_
    exact so_jmp
  · refine so_aload_n d_X_transfer_154 rfl ?_
    refine so_iload_n d_X_transfer_155 rfl ?_
    refine so_callV cl_7 f_X_fromFile w_779 w_51 w_777 (by decide) (by decide) d_X_transfer_156 ?_
    exact so_jmp
def k_X_transfer_159 (G : oG) (Post : oP) : oK := o_jmp G m_X_transfer Post 172 []
theorem s_X_transfer_159 {G : oG} {Post : oP} : oS G m_X_transfer Post 159 (k_X_transfer_159 G Post) := by
  unfold k_X_transfer_159
  refine so_goto d_X_transfer_159 (tgt := 172) (by decide) ?_
  exact so_jmp
def k_X_transfer_172 (G : oG) (Post : oP) : oK := o_iret Post
theorem s_X_transfer_172 {G : oG} {Post : oP} : oS G m_X_transfer Post 172 (k_X_transfer_172 G Post) := by
  unfold k_X_transfer_172
  exact so_iret d_X_transfer_172 rfl
theorem d_X_seek_0 : decode prog_9_method_38_code 0 = .ok (.aload_n 0, 1) := by decide +kernel
theorem d_X_seek_1 : decode prog_9_method_38_code 1 = .ok (.invokevirtual 200, 3) := by decide +kernel
theorem d_X_seek_4 : decode prog_9_method_38_code 4 = .ok (.istore_n 1, 1) := by decide +kernel
theorem d_X_seek_5 : decode prog_9_method_38_code 5 = .ok (.iload_n 1, 1) := by decide +kernel
theorem d_X_seek_6 : decode prog_9_method_38_code 6 = .ok (.ifCond .ge 6, 3) := by decide +kernel
theorem d_X_seek_9 : decode prog_9_method_38_code 9 = .ok (.bipush (-9), 2) := by decide +kernel
theorem d_X_seek_11 : decode prog_9_method_38_code 11 = .ok (.ireturn, 1) := by decide +kernel
theorem d_X_seek_12 : decode prog_9_method_38_code 12 = .ok (.aload_n 0, 1) := by decide +kernel
theorem d_X_seek_13 : decode prog_9_method_38_code 13 = .ok (.getfield 41, 3) := by decide +kernel
theorem d_X_seek_16 : decode prog_9_method_38_code 16 = .ok (.iload_n 1, 1) := by decide +kernel
theorem d_X_seek_17 : decode prog_9_method_38_code 17 = .ok (.iaload, 1) := by decide +kernel
theorem d_X_seek_18 : decode prog_9_method_38_code 18 = .ok (.iconst 1, 1) := by decide +kernel
theorem d_X_seek_19 : decode prog_9_method_38_code 19 = .ok (.if_icmp .eq 6, 3) := by decide +kernel
theorem d_X_seek_22 : decode prog_9_method_38_code 22 = .ok (.bipush (-29), 2) := by decide +kernel
theorem d_X_seek_24 : decode prog_9_method_38_code 24 = .ok (.ireturn, 1) := by decide +kernel
theorem d_X_seek_25 : decode prog_9_method_38_code 25 = .ok (.aload_n 0, 1) := by decide +kernel
theorem d_X_seek_26 : decode prog_9_method_38_code 26 = .ok (.getfield 99, 3) := by decide +kernel
theorem d_X_seek_29 : decode prog_9_method_38_code 29 = .ok (.ifCond .lt 12, 3) := by decide +kernel
theorem d_X_seek_32 : decode prog_9_method_38_code 32 = .ok (.aload_n 0, 1) := by decide +kernel
theorem d_X_seek_33 : decode prog_9_method_38_code 33 = .ok (.getfield 99, 3) := by decide +kernel
theorem d_X_seek_36 : decode prog_9_method_38_code 36 = .ok (.bipush 24, 2) := by decide +kernel
theorem d_X_seek_38 : decode prog_9_method_38_code 38 = .ok (.if_icmp .le 6, 3) := by decide +kernel
theorem d_X_seek_41 : decode prog_9_method_38_code 41 = .ok (.bipush (-22), 2) := by decide +kernel
theorem d_X_seek_43 : decode prog_9_method_38_code 43 = .ok (.ireturn, 1) := by decide +kernel
theorem d_X_seek_44 : decode prog_9_method_38_code 44 = .ok (.aload_n 0, 1) := by decide +kernel
theorem d_X_seek_45 : decode prog_9_method_38_code 45 = .ok (.getfield 47, 3) := by decide +kernel
theorem d_X_seek_48 : decode prog_9_method_38_code 48 = .ok (.iload_n 1, 1) := by decide +kernel
theorem d_X_seek_49 : decode prog_9_method_38_code 49 = .ok (.aload_n 0, 1) := by decide +kernel
theorem d_X_seek_50 : decode prog_9_method_38_code 50 = .ok (.getfield 99, 3) := by decide +kernel
theorem d_X_seek_53 : decode prog_9_method_38_code 53 = .ok (.iastore, 1) := by decide +kernel
theorem d_X_seek_54 : decode prog_9_method_38_code 54 = .ok (.aload_n 0, 1) := by decide +kernel
theorem d_X_seek_55 : decode prog_9_method_38_code 55 = .ok (.getfield 99, 3) := by decide +kernel
theorem d_X_seek_58 : decode prog_9_method_38_code 58 = .ok (.ireturn, 1) := by decide +kernel
def k_X_seek_0 (G : oG) (Post : oP) : oK := o_aload 0 <| o_callV G 7 m_X_opened 0 <| o_jmp G m_X_seek Post 4 [0]
theorem s_X_seek_0 {G : oG} {Post : oP} : oS G m_X_seek Post 0 (k_X_seek_0 G Post) := by
  unfold k_X_seek_0
  refine so_aload_n d_X_seek_0 rfl ?_
  refine so_callV cl_7 f_X_opened w_747 w_43 w_745 (by decide) (by decide) d_X_seek_1 ?_
  exact so_jmp
def k_X_seek_4 (G : oG) (Post : oP) : oK := o_istore 1 <| o_iload 1 <| o_ifge (o_jmp G m_X_seek Post 12 [0, 1]) (o_iconst (-9) <| o_iret Post)
theorem s_X_seek_4 {G : oG} {Post : oP} : oS G m_X_seek Post 4 (k_X_seek_4 G Post) := by
  unfold k_X_seek_4
  refine so_istore_n d_X_seek_4 rfl (by decide) ?_
  refine so_iload_n d_X_seek_5 rfl ?_
  refine so_ifge d_X_seek_6 (tgt := 12) (by decide) ?_ ?_
  · exact so_jmp
  · refine so_bipush d_X_seek_9 rfl ?_
    exact so_iret d_X_seek_11 rfl
def k_X_seek_12 (G : oG) (Post : oP) : oK := o_aload 0 <| o_getf 7 11 <| o_iload 1 <| o_iald G <| o_iconst 1 <| o_icmpeq (o_jmp G m_X_seek Post 25 [0, 1]) (o_iconst (-29) <| o_iret Post)
theorem s_X_seek_12 {G : oG} {Post : oP} : oS G m_X_seek Post 12 (k_X_seek_12 G Post) := by
  unfold k_X_seek_12
  refine so_aload_n d_X_seek_12 rfl ?_
  refine so_getf cl_7 (k := 11) (by decide) w_573 d_X_seek_13 ?_
  refine so_iload_n d_X_seek_16 rfl ?_
  refine so_iald d_X_seek_17 ?_
  refine so_iconst d_X_seek_18 rfl ?_
  refine so_icmpeq d_X_seek_19 (tgt := 25) (by decide) ?_ ?_
  · exact so_jmp
  · refine so_bipush d_X_seek_22 rfl ?_
    exact so_iret d_X_seek_24 rfl
def k_X_seek_25 (G : oG) (Post : oP) : oK := o_aload 0 <| o_getf 7 21 <| o_iflt (o_iconst (-22) <| o_iret Post) (o_aload 0 <| o_getf 7 21 <| o_iconst 24 <| o_icmple (o_aload 0 <| o_getf 7 13 <| o_iload 1 <| o_aload 0 <| o_getf 7 21 <| o_iast <| o_aload 0 <| o_getf 7 21 <| o_iret Post) (o_iconst (-22) <| o_iret Post))
theorem s_X_seek_25 {G : oG} {Post : oP} : oS G m_X_seek Post 25 (k_X_seek_25 G Post) := by
  unfold k_X_seek_25
  refine so_aload_n d_X_seek_25 rfl ?_
  refine so_getf cl_7 (k := 21) (by decide) w_583 d_X_seek_26 ?_
  refine so_iflt d_X_seek_29 (tgt := 41) (by decide) ?_ ?_
  · refine so_bipush d_X_seek_41 rfl ?_
    exact so_iret d_X_seek_43 rfl
  · refine so_aload_n d_X_seek_32 rfl ?_
    refine so_getf cl_7 (k := 21) (by decide) w_583 d_X_seek_33 ?_
    refine so_bipush d_X_seek_36 rfl ?_
    refine so_icmple d_X_seek_38 (tgt := 44) (by decide) ?_ ?_
    · refine so_aload_n d_X_seek_44 rfl ?_
      refine so_getf cl_7 (k := 13) (by decide) w_575 d_X_seek_45 ?_
      refine so_iload_n d_X_seek_48 rfl ?_
      refine so_aload_n d_X_seek_49 rfl ?_
      refine so_getf cl_7 (k := 21) (by decide) w_583 d_X_seek_50 ?_
      refine so_iast d_X_seek_53 ?_
      refine so_aload_n d_X_seek_54 rfl ?_
      refine so_getf cl_7 (k := 21) (by decide) w_583 d_X_seek_55 ?_
      exact so_iret d_X_seek_58 rfl
    · refine so_bipush d_X_seek_41 rfl ?_
      exact so_iret d_X_seek_43 rfl
theorem d_X_dup_0 : decode prog_9_method_37_code 0 = .ok (.aload_n 0, 1) := by decide +kernel
theorem d_X_dup_1 : decode prog_9_method_37_code 1 = .ok (.invokevirtual 200, 3) := by decide +kernel
theorem d_X_dup_4 : decode prog_9_method_37_code 4 = .ok (.istore_n 1, 1) := by decide +kernel
theorem d_X_dup_5 : decode prog_9_method_37_code 5 = .ok (.iload_n 1, 1) := by decide +kernel
theorem d_X_dup_6 : decode prog_9_method_37_code 6 = .ok (.ifCond .ge 6, 3) := by decide +kernel
theorem d_X_dup_9 : decode prog_9_method_37_code 9 = .ok (.bipush (-9), 2) := by decide +kernel
theorem d_X_dup_11 : decode prog_9_method_37_code 11 = .ok (.ireturn, 1) := by decide +kernel
theorem d_X_dup_12 : decode prog_9_method_37_code 12 = .ok (.aload_n 0, 1) := by decide +kernel
theorem d_X_dup_13 : decode prog_9_method_37_code 13 = .ok (.invokevirtual 183, 3) := by decide +kernel
theorem d_X_dup_16 : decode prog_9_method_37_code 16 = .ok (.istore_n 2, 1) := by decide +kernel
theorem d_X_dup_17 : decode prog_9_method_37_code 17 = .ok (.iload_n 2, 1) := by decide +kernel
theorem d_X_dup_18 : decode prog_9_method_37_code 18 = .ok (.ifCond .ge 6, 3) := by decide +kernel
theorem d_X_dup_21 : decode prog_9_method_37_code 21 = .ok (.bipush (-24), 2) := by decide +kernel
theorem d_X_dup_23 : decode prog_9_method_37_code 23 = .ok (.ireturn, 1) := by decide +kernel
theorem d_X_dup_24 : decode prog_9_method_37_code 24 = .ok (.aload_n 0, 1) := by decide +kernel
theorem d_X_dup_25 : decode prog_9_method_37_code 25 = .ok (.getfield 62, 3) := by decide +kernel
theorem d_X_dup_28 : decode prog_9_method_37_code 28 = .ok (.iconst 5, 1) := by decide +kernel
theorem d_X_dup_29 : decode prog_9_method_37_code 29 = .ok (.aload_n 0, 1) := by decide +kernel
theorem d_X_dup_30 : decode prog_9_method_37_code 30 = .ok (.getfield 92, 3) := by decide +kernel
theorem d_X_dup_33 : decode prog_9_method_37_code 33 = .ok (.imul, 1) := by decide +kernel
theorem d_X_dup_34 : decode prog_9_method_37_code 34 = .ok (.iload_n 2, 1) := by decide +kernel
theorem d_X_dup_35 : decode prog_9_method_37_code 35 = .ok (.iadd, 1) := by decide +kernel
theorem d_X_dup_36 : decode prog_9_method_37_code 36 = .ok (.iload_n 1, 1) := by decide +kernel
theorem d_X_dup_37 : decode prog_9_method_37_code 37 = .ok (.iconst 1, 1) := by decide +kernel
theorem d_X_dup_38 : decode prog_9_method_37_code 38 = .ok (.iadd, 1) := by decide +kernel
theorem d_X_dup_39 : decode prog_9_method_37_code 39 = .ok (.iastore, 1) := by decide +kernel
theorem d_X_dup_40 : decode prog_9_method_37_code 40 = .ok (.iload_n 2, 1) := by decide +kernel
theorem d_X_dup_41 : decode prog_9_method_37_code 41 = .ok (.ireturn, 1) := by decide +kernel
def k_X_dup_0 (G : oG) (Post : oP) : oK := o_aload 0 <| o_callV G 7 m_X_opened 0 <| o_jmp G m_X_dup Post 4 [0]
theorem s_X_dup_0 {G : oG} {Post : oP} : oS G m_X_dup Post 0 (k_X_dup_0 G Post) := by
  unfold k_X_dup_0
  refine so_aload_n d_X_dup_0 rfl ?_
  refine so_callV cl_7 f_X_opened w_747 w_43 w_745 (by decide) (by decide) d_X_dup_1 ?_
  exact so_jmp
def k_X_dup_4 (G : oG) (Post : oP) : oK := o_istore 1 <| o_iload 1 <| o_ifge (o_aload 0 <| o_callV G 7 m_X_freeDescriptor 0 <| o_jmp G m_X_dup Post 16 [0, 1]) (o_iconst (-9) <| o_iret Post)
theorem s_X_dup_4 {G : oG} {Post : oP} : oS G m_X_dup Post 4 (k_X_dup_4 G Post) := by
  unfold k_X_dup_4
  refine so_istore_n d_X_dup_4 rfl (by decide) ?_
  refine so_iload_n d_X_dup_5 rfl ?_
  refine so_ifge d_X_dup_6 (tgt := 12) (by decide) ?_ ?_
  · refine so_aload_n d_X_dup_12 rfl ?_
    refine so_callV cl_7 f_X_freeDescriptor w_719 w_36 w_717 (by decide) (by decide) d_X_dup_13 ?_
    exact so_jmp
  · refine so_bipush d_X_dup_9 rfl ?_
    exact so_iret d_X_dup_11 rfl
def k_X_dup_16 (G : oG) (Post : oP) : oK := o_istore 2 <| o_iload 2 <| o_ifge (o_aload 0 <| o_getf 7 18 <| o_iconst 5 <| o_aload 0 <| o_getf 7 19 <| o_imul <| o_iload 2 <| o_iadd <| o_iload 1 <| o_iconst 1 <| o_iadd <| o_iast <| o_iload 2 <| o_iret Post) (o_iconst (-24) <| o_iret Post)
theorem s_X_dup_16 {G : oG} {Post : oP} : oS G m_X_dup Post 16 (k_X_dup_16 G Post) := by
  unfold k_X_dup_16
  refine so_istore_n d_X_dup_16 rfl (by decide) ?_
  refine so_iload_n d_X_dup_17 rfl ?_
  refine so_ifge d_X_dup_18 (tgt := 24) (by decide) ?_ ?_
  · refine so_aload_n d_X_dup_24 rfl ?_
    refine so_getf cl_7 (k := 18) (by decide) w_580 d_X_dup_25 ?_
    refine so_iconst d_X_dup_28 rfl ?_
    refine so_aload_n d_X_dup_29 rfl ?_
    refine so_getf cl_7 (k := 19) (by decide) w_581 d_X_dup_30 ?_
    refine so_imul d_X_dup_33 ?_
    refine so_iload_n d_X_dup_34 rfl ?_
    refine so_iadd d_X_dup_35 ?_
    refine so_iload_n d_X_dup_36 rfl ?_
    refine so_iconst d_X_dup_37 rfl ?_
    refine so_iadd d_X_dup_38 ?_
    refine so_iast d_X_dup_39 ?_
    refine so_iload_n d_X_dup_40 rfl ?_
    exact so_iret d_X_dup_41 rfl
  · refine so_bipush d_X_dup_21 rfl ?_
    exact so_iret d_X_dup_23 rfl
theorem d_X_unlink_0 : decode prog_9_method_45_code 0 = .ok (.aload_n 0, 1) := by decide +kernel
theorem d_X_unlink_1 : decode prog_9_method_45_code 1 = .ok (.iconst 0, 1) := by decide +kernel
theorem d_X_unlink_2 : decode prog_9_method_45_code 2 = .ok (.aload_n 0, 1) := by decide +kernel
theorem d_X_unlink_3 : decode prog_9_method_45_code 3 = .ok (.getfield 96, 3) := by decide +kernel
theorem d_X_unlink_6 : decode prog_9_method_45_code 6 = .ok (.invokevirtual 177, 3) := by decide +kernel
theorem d_X_unlink_9 : decode prog_9_method_45_code 9 = .ok (.ifCond .ne 6, 3) := by decide +kernel
theorem d_X_unlink_12 : decode prog_9_method_45_code 12 = .ok (.bipush (-14), 2) := by decide +kernel
theorem d_X_unlink_14 : decode prog_9_method_45_code 14 = .ok (.ireturn, 1) := by decide +kernel
theorem d_X_unlink_15 : decode prog_9_method_45_code 15 = .ok (.aload_n 0, 1) := by decide +kernel
theorem d_X_unlink_16 : decode prog_9_method_45_code 16 = .ok (.iconst 0, 1) := by decide +kernel
theorem d_X_unlink_17 : decode prog_9_method_45_code 17 = .ok (.invokevirtual 180, 3) := by decide +kernel
theorem d_X_unlink_20 : decode prog_9_method_45_code 20 = .ok (.istore_n 1, 1) := by decide +kernel
theorem d_X_unlink_21 : decode prog_9_method_45_code 21 = .ok (.iload_n 1, 1) := by decide +kernel
theorem d_X_unlink_22 : decode prog_9_method_45_code 22 = .ok (.ifCond .ge 6, 3) := by decide +kernel
theorem d_X_unlink_25 : decode prog_9_method_45_code 25 = .ok (.bipush (-2), 2) := by decide +kernel
theorem d_X_unlink_27 : decode prog_9_method_45_code 27 = .ok (.ireturn, 1) := by decide +kernel
theorem d_X_unlink_28 : decode prog_9_method_45_code 28 = .ok (.aload_n 0, 1) := by decide +kernel
theorem d_X_unlink_29 : decode prog_9_method_45_code 29 = .ok (.getfield 32, 3) := by decide +kernel
theorem d_X_unlink_32 : decode prog_9_method_45_code 32 = .ok (.iload_n 1, 1) := by decide +kernel
theorem d_X_unlink_33 : decode prog_9_method_45_code 33 = .ok (.iconst 0, 1) := by decide +kernel
theorem d_X_unlink_34 : decode prog_9_method_45_code 34 = .ok (.iastore, 1) := by decide +kernel
theorem d_X_unlink_35 : decode prog_9_method_45_code 35 = .ok (.iconst 0, 1) := by decide +kernel
theorem d_X_unlink_36 : decode prog_9_method_45_code 36 = .ok (.ireturn, 1) := by decide +kernel
def k_X_unlink_0 (G : oG) (Post : oP) : oK := o_aload 0 <| o_iconst 0 <| o_aload 0 <| o_getf 7 20 <| o_callV G 7 m_X_string 2 <| o_jmp G m_X_unlink Post 9 [0]
theorem s_X_unlink_0 {G : oG} {Post : oP} : oS G m_X_unlink Post 0 (k_X_unlink_0 G Post) := by
  unfold k_X_unlink_0
  refine so_aload_n d_X_unlink_0 rfl ?_
  refine so_iconst d_X_unlink_1 rfl ?_
  refine so_aload_n d_X_unlink_2 rfl ?_
  refine so_getf cl_7 (k := 20) (by decide) w_582 d_X_unlink_3 ?_
  refine so_callV cl_7 f_X_string w_703 w_32 w_701 (by decide) (by decide) d_X_unlink_6 ?_
  exact so_jmp
def k_X_unlink_9 (G : oG) (Post : oP) : oK := o_ifne (o_aload 0 <| o_iconst 0 <| o_callV G 7 m_X_name 1 <| o_jmp G m_X_unlink Post 20 [0]) (o_iconst (-14) <| o_iret Post)
theorem s_X_unlink_9 {G : oG} {Post : oP} : oS G m_X_unlink Post 9 (k_X_unlink_9 G Post) := by
  unfold k_X_unlink_9
  refine so_ifne d_X_unlink_9 (tgt := 15) (by decide) ?_ ?_
  · refine so_aload_n d_X_unlink_15 rfl ?_
    refine so_iconst d_X_unlink_16 rfl ?_
    refine so_callV cl_7 f_X_name w_711 w_34 w_709 (by decide) (by decide) d_X_unlink_17 ?_
    exact so_jmp
  · refine so_bipush d_X_unlink_12 rfl ?_
    exact so_iret d_X_unlink_14 rfl
def k_X_unlink_20 (G : oG) (Post : oP) : oK := o_istore 1 <| o_iload 1 <| o_ifge (o_aload 0 <| o_getf 7 8 <| o_iload 1 <| o_iconst 0 <| o_iast <| o_iconst 0 <| o_iret Post) (o_iconst (-2) <| o_iret Post)
theorem s_X_unlink_20 {G : oG} {Post : oP} : oS G m_X_unlink Post 20 (k_X_unlink_20 G Post) := by
  unfold k_X_unlink_20
  refine so_istore_n d_X_unlink_20 rfl (by decide) ?_
  refine so_iload_n d_X_unlink_21 rfl ?_
  refine so_ifge d_X_unlink_22 (tgt := 28) (by decide) ?_ ?_
  · refine so_aload_n d_X_unlink_28 rfl ?_
    refine so_getf cl_7 (k := 8) (by decide) w_570 d_X_unlink_29 ?_
    refine so_iload_n d_X_unlink_32 rfl ?_
    refine so_iconst d_X_unlink_33 rfl ?_
    refine so_iast d_X_unlink_34 ?_
    refine so_iconst d_X_unlink_35 rfl ?_
    exact so_iret d_X_unlink_36 rfl
  · refine so_bipush d_X_unlink_25 rfl ?_
    exact so_iret d_X_unlink_27 rfl
theorem d_X_first_0 : decode prog_9_method_14_code 0 = .ok (.iload_n 1, 1) := by decide +kernel
theorem d_X_first_1 : decode prog_9_method_14_code 1 = .ok (.tableswitch 100 0 8 #[51, 56, 61, 66, 71, 78, 85, 90, 95], 51) := by decide +kernel
theorem d_X_first_52 : decode prog_9_method_14_code 52 = .ok (.aload_n 0, 1) := by decide +kernel
theorem d_X_first_53 : decode prog_9_method_14_code 53 = .ok (.getfield 92, 3) := by decide +kernel
theorem d_X_first_56 : decode prog_9_method_14_code 56 = .ok (.ireturn, 1) := by decide +kernel
theorem d_X_first_57 : decode prog_9_method_14_code 57 = .ok (.aload_n 0, 1) := by decide +kernel
theorem d_X_first_58 : decode prog_9_method_14_code 58 = .ok (.getfield 115, 3) := by decide +kernel
theorem d_X_first_61 : decode prog_9_method_14_code 61 = .ok (.ireturn, 1) := by decide +kernel
theorem d_X_first_62 : decode prog_9_method_14_code 62 = .ok (.aload_n 0, 1) := by decide +kernel
theorem d_X_first_63 : decode prog_9_method_14_code 63 = .ok (.invokevirtual 118, 3) := by decide +kernel
theorem d_X_first_66 : decode prog_9_method_14_code 66 = .ok (.ireturn, 1) := by decide +kernel
theorem d_X_first_67 : decode prog_9_method_14_code 67 = .ok (.aload_n 0, 1) := by decide +kernel
theorem d_X_first_68 : decode prog_9_method_14_code 68 = .ok (.invokevirtual 122, 3) := by decide +kernel
theorem d_X_first_71 : decode prog_9_method_14_code 71 = .ok (.ireturn, 1) := by decide +kernel
theorem d_X_first_72 : decode prog_9_method_14_code 72 = .ok (.aload_n 0, 1) := by decide +kernel
theorem d_X_first_73 : decode prog_9_method_14_code 73 = .ok (.iconst 0, 1) := by decide +kernel
theorem d_X_first_74 : decode prog_9_method_14_code 74 = .ok (.iconst 0, 1) := by decide +kernel
theorem d_X_first_75 : decode prog_9_method_14_code 75 = .ok (.invokevirtual 125, 3) := by decide +kernel
theorem d_X_first_78 : decode prog_9_method_14_code 78 = .ok (.ireturn, 1) := by decide +kernel
theorem d_X_first_79 : decode prog_9_method_14_code 79 = .ok (.aload_n 0, 1) := by decide +kernel
theorem d_X_first_80 : decode prog_9_method_14_code 80 = .ok (.iconst 1, 1) := by decide +kernel
theorem d_X_first_81 : decode prog_9_method_14_code 81 = .ok (.iconst 0, 1) := by decide +kernel
theorem d_X_first_82 : decode prog_9_method_14_code 82 = .ok (.invokevirtual 125, 3) := by decide +kernel
theorem d_X_first_85 : decode prog_9_method_14_code 85 = .ok (.ireturn, 1) := by decide +kernel
theorem d_X_first_86 : decode prog_9_method_14_code 86 = .ok (.aload_n 0, 1) := by decide +kernel
theorem d_X_first_87 : decode prog_9_method_14_code 87 = .ok (.invokevirtual 129, 3) := by decide +kernel
theorem d_X_first_90 : decode prog_9_method_14_code 90 = .ok (.ireturn, 1) := by decide +kernel
theorem d_X_first_91 : decode prog_9_method_14_code 91 = .ok (.aload_n 0, 1) := by decide +kernel
theorem d_X_first_92 : decode prog_9_method_14_code 92 = .ok (.invokevirtual 132, 3) := by decide +kernel
theorem d_X_first_95 : decode prog_9_method_14_code 95 = .ok (.ireturn, 1) := by decide +kernel
theorem d_X_first_96 : decode prog_9_method_14_code 96 = .ok (.aload_n 0, 1) := by decide +kernel
theorem d_X_first_97 : decode prog_9_method_14_code 97 = .ok (.invokevirtual 135, 3) := by decide +kernel
theorem d_X_first_100 : decode prog_9_method_14_code 100 = .ok (.ireturn, 1) := by decide +kernel
theorem d_X_first_101 : decode prog_9_method_14_code 101 = .ok (.bipush (-38), 2) := by decide +kernel
theorem d_X_first_103 : decode prog_9_method_14_code 103 = .ok (.ireturn, 1) := by decide +kernel
def k_X_first_0 (G : oG) (Post : oP) : oK := o_iload 1 <| o_tsw G m_X_first Post 0 [52, 57, 62, 67, 72, 79, 86, 91, 96] 101 [0]
theorem s_X_first_0 {G : oG} {Post : oP} : oS G m_X_first Post 0 (k_X_first_0 G Post) := by
  unfold k_X_first_0
  refine so_iload_n d_X_first_0 rfl ?_
  exact so_tsw d_X_first_1 (by decide) (by decide) (by decide)
def k_X_first_52 (G : oG) (Post : oP) : oK := o_aload 0 <| o_getf 7 19 <| o_iret Post
theorem s_X_first_52 {G : oG} {Post : oP} : oS G m_X_first Post 52 (k_X_first_52 G Post) := by
  unfold k_X_first_52
  refine so_aload_n d_X_first_52 rfl ?_
  refine so_getf cl_7 (k := 19) (by decide) w_581 d_X_first_53 ?_
  exact so_iret d_X_first_56 rfl
def k_X_first_57 (G : oG) (Post : oP) : oK := o_aload 0 <| o_getf 7 4 <| o_iret Post
theorem s_X_first_57 {G : oG} {Post : oP} : oS G m_X_first Post 57 (k_X_first_57 G Post) := by
  unfold k_X_first_57
  refine so_aload_n d_X_first_57 rfl ?_
  refine so_getf cl_7 (k := 4) (by decide) w_566 d_X_first_58 ?_
  exact so_iret d_X_first_61 rfl
def k_X_first_62 (G : oG) (Post : oP) : oK := o_aload 0 <| o_callV G 7 m_X_open 0 <| o_jmp G m_X_first Post 66 []
theorem s_X_first_62 {G : oG} {Post : oP} : oS G m_X_first Post 62 (k_X_first_62 G Post) := by
  unfold k_X_first_62
  refine so_aload_n d_X_first_62 rfl ?_
  refine so_callV cl_7 f_X_open w_699 w_31 w_697 (by decide) (by decide) d_X_first_63 ?_
  exact so_jmp
def k_X_first_66 (G : oG) (Post : oP) : oK := o_iret Post
theorem s_X_first_66 {G : oG} {Post : oP} : oS G m_X_first Post 66 (k_X_first_66 G Post) := by
  unfold k_X_first_66
  exact so_iret d_X_first_66 rfl
def k_X_first_67 (G : oG) (Post : oP) : oK := o_aload 0 <| o_callV G 7 m_X_close 0 <| o_jmp G m_X_first Post 71 []
theorem s_X_first_67 {G : oG} {Post : oP} : oS G m_X_first Post 67 (k_X_first_67 G Post) := by
  unfold k_X_first_67
  refine so_aload_n d_X_first_67 rfl ?_
  refine so_callV cl_7 f_X_close w_743 w_42 w_741 (by decide) (by decide) d_X_first_68 ?_
  exact so_jmp
def k_X_first_71 (G : oG) (Post : oP) : oK := o_iret Post
theorem s_X_first_71 {G : oG} {Post : oP} : oS G m_X_first Post 71 (k_X_first_71 G Post) := by
  unfold k_X_first_71
  exact so_iret d_X_first_71 rfl
def k_X_first_72 (G : oG) (Post : oP) : oK := o_aload 0 <| o_iconst 0 <| o_iconst 0 <| o_callV G 7 m_X_transfer 2 <| o_jmp G m_X_first Post 78 []
theorem s_X_first_72 {G : oG} {Post : oP} : oS G m_X_first Post 72 (k_X_first_72 G Post) := by
  unfold k_X_first_72
  refine so_aload_n d_X_first_72 rfl ?_
  refine so_iconst d_X_first_73 rfl ?_
  refine so_iconst d_X_first_74 rfl ?_
  refine so_callV cl_7 f_X_transfer w_751 w_44 w_749 (by decide) (by decide) d_X_first_75 ?_
  exact so_jmp
def k_X_first_78 (G : oG) (Post : oP) : oK := o_iret Post
theorem s_X_first_78 {G : oG} {Post : oP} : oS G m_X_first Post 78 (k_X_first_78 G Post) := by
  unfold k_X_first_78
  exact so_iret d_X_first_78 rfl
def k_X_first_79 (G : oG) (Post : oP) : oK := o_aload 0 <| o_iconst 1 <| o_iconst 0 <| o_callV G 7 m_X_transfer 2 <| o_jmp G m_X_first Post 85 []
theorem s_X_first_79 {G : oG} {Post : oP} : oS G m_X_first Post 79 (k_X_first_79 G Post) := by
  unfold k_X_first_79
  refine so_aload_n d_X_first_79 rfl ?_
  refine so_iconst d_X_first_80 rfl ?_
  refine so_iconst d_X_first_81 rfl ?_
  refine so_callV cl_7 f_X_transfer w_751 w_44 w_749 (by decide) (by decide) d_X_first_82 ?_
  exact so_jmp
def k_X_first_85 (G : oG) (Post : oP) : oK := o_iret Post
theorem s_X_first_85 {G : oG} {Post : oP} : oS G m_X_first Post 85 (k_X_first_85 G Post) := by
  unfold k_X_first_85
  exact so_iret d_X_first_85 rfl
def k_X_first_86 (G : oG) (Post : oP) : oK := o_aload 0 <| o_callV G 7 m_X_seek 0 <| o_jmp G m_X_first Post 90 []
theorem s_X_first_86 {G : oG} {Post : oP} : oS G m_X_first Post 86 (k_X_first_86 G Post) := by
  unfold k_X_first_86
  refine so_aload_n d_X_first_86 rfl ?_
  refine so_callV cl_7 f_X_seek w_787 w_53 w_785 (by decide) (by decide) d_X_first_87 ?_
  exact so_jmp
def k_X_first_90 (G : oG) (Post : oP) : oK := o_iret Post
theorem s_X_first_90 {G : oG} {Post : oP} : oS G m_X_first Post 90 (k_X_first_90 G Post) := by
  unfold k_X_first_90
  exact so_iret d_X_first_90 rfl
def k_X_first_91 (G : oG) (Post : oP) : oK := o_aload 0 <| o_callV G 7 m_X_dup 0 <| o_jmp G m_X_first Post 95 []
theorem s_X_first_91 {G : oG} {Post : oP} : oS G m_X_first Post 91 (k_X_first_91 G Post) := by
  unfold k_X_first_91
  refine so_aload_n d_X_first_91 rfl ?_
  refine so_callV cl_7 f_X_dup w_791 w_54 w_789 (by decide) (by decide) d_X_first_92 ?_
  exact so_jmp
def k_X_first_95 (G : oG) (Post : oP) : oK := o_iret Post
theorem s_X_first_95 {G : oG} {Post : oP} : oS G m_X_first Post 95 (k_X_first_95 G Post) := by
  unfold k_X_first_95
  exact so_iret d_X_first_95 rfl
def k_X_first_96 (G : oG) (Post : oP) : oK := o_aload 0 <| o_callV G 7 m_X_unlink 0 <| o_jmp G m_X_first Post 100 []
theorem s_X_first_96 {G : oG} {Post : oP} : oS G m_X_first Post 96 (k_X_first_96 G Post) := by
  unfold k_X_first_96
  refine so_aload_n d_X_first_96 rfl ?_
  refine so_callV cl_7 f_X_unlink w_795 w_55 w_793 (by decide) (by decide) d_X_first_97 ?_
  exact so_jmp
def k_X_first_100 (G : oG) (Post : oP) : oK := o_iret Post
theorem s_X_first_100 {G : oG} {Post : oP} : oS G m_X_first Post 100 (k_X_first_100 G Post) := by
  unfold k_X_first_100
  exact so_iret d_X_first_100 rfl
def k_X_first_101 (G : oG) (Post : oP) : oK := o_iconst (-38) <| o_iret Post
theorem s_X_first_101 {G : oG} {Post : oP} : oS G m_X_first Post 101 (k_X_first_101 G Post) := by
  unfold k_X_first_101
  refine so_bipush d_X_first_101 rfl ?_
  exact so_iret d_X_first_103 rfl
theorem d_X_strings_0 : decode prog_9_method_46_code 0 = .ok (.aload_n 0, 1) := by decide +kernel
theorem d_X_strings_1 : decode prog_9_method_46_code 1 = .ok (.iconst 0, 1) := by decide +kernel
theorem d_X_strings_2 : decode prog_9_method_46_code 2 = .ok (.aload_n 0, 1) := by decide +kernel
theorem d_X_strings_3 : decode prog_9_method_46_code 3 = .ok (.getfield 96, 3) := by decide +kernel
theorem d_X_strings_6 : decode prog_9_method_46_code 6 = .ok (.invokevirtual 177, 3) := by decide +kernel
theorem d_X_strings_9 : decode prog_9_method_46_code 9 = .ok (.ifCond .eq 19, 3) := by decide +kernel
theorem d_X_strings_12 : decode prog_9_method_46_code 12 = .ok (.aload_n 0, 1) := by decide +kernel
theorem d_X_strings_13 : decode prog_9_method_46_code 13 = .ok (.iconst 1, 1) := by decide +kernel
theorem d_X_strings_14 : decode prog_9_method_46_code 14 = .ok (.aload_n 0, 1) := by decide +kernel
theorem d_X_strings_15 : decode prog_9_method_46_code 15 = .ok (.getfield 99, 3) := by decide +kernel
theorem d_X_strings_18 : decode prog_9_method_46_code 18 = .ok (.invokevirtual 177, 3) := by decide +kernel
theorem d_X_strings_21 : decode prog_9_method_46_code 21 = .ok (.ifCond .eq 7, 3) := by decide +kernel
theorem d_X_strings_24 : decode prog_9_method_46_code 24 = .ok (.iconst 1, 1) := by decide +kernel
theorem d_X_strings_25 : decode prog_9_method_46_code 25 = .ok (.goto 4, 3) := by decide +kernel
theorem d_X_strings_28 : decode prog_9_method_46_code 28 = .ok (.iconst 0, 1) := by decide +kernel
theorem d_X_strings_29 : decode prog_9_method_46_code 29 = .ok (.ireturn, 1) := by decide +kernel
def k_X_strings_0 (G : oG) (Post : oP) : oK := o_aload 0 <| o_iconst 0 <| o_aload 0 <| o_getf 7 20 <| o_callV G 7 m_X_string 2 <| o_jmp G m_X_strings Post 9 [0]
theorem s_X_strings_0 {G : oG} {Post : oP} : oS G m_X_strings Post 0 (k_X_strings_0 G Post) := by
  unfold k_X_strings_0
  refine so_aload_n d_X_strings_0 rfl ?_
  refine so_iconst d_X_strings_1 rfl ?_
  refine so_aload_n d_X_strings_2 rfl ?_
  refine so_getf cl_7 (k := 20) (by decide) w_582 d_X_strings_3 ?_
  refine so_callV cl_7 f_X_string w_703 w_32 w_701 (by decide) (by decide) d_X_strings_6 ?_
  exact so_jmp
def k_X_strings_9 (G : oG) (Post : oP) : oK := o_ifeq (o_iconst 0 <| o_zret Post) (o_aload 0 <| o_iconst 1 <| o_aload 0 <| o_getf 7 21 <| o_callV G 7 m_X_string 2 <| o_jmp G m_X_strings Post 21 [])
theorem s_X_strings_9 {G : oG} {Post : oP} : oS G m_X_strings Post 9 (k_X_strings_9 G Post) := by
  unfold k_X_strings_9
  refine so_ifeq d_X_strings_9 (tgt := 28) (by decide) ?_ ?_
  · refine so_iconst d_X_strings_28 rfl ?_
    exact so_zret d_X_strings_29 rfl
  · refine so_aload_n d_X_strings_12 rfl ?_
    refine so_iconst d_X_strings_13 rfl ?_
    refine so_aload_n d_X_strings_14 rfl ?_
    refine so_getf cl_7 (k := 21) (by decide) w_583 d_X_strings_15 ?_
    refine so_callV cl_7 f_X_string w_703 w_32 w_701 (by decide) (by decide) d_X_strings_18 ?_
    exact so_jmp
def k_X_strings_21 (G : oG) (Post : oP) : oK := o_ifeq (o_iconst 0 <| o_zret Post) (o_iconst 1 <| o_zret Post)
theorem s_X_strings_21 {G : oG} {Post : oP} : oS G m_X_strings Post 21 (k_X_strings_21 G Post) := by
  unfold k_X_strings_21
  refine so_ifeq d_X_strings_21 (tgt := 28) (by decide) ?_ ?_
  · refine so_iconst d_X_strings_28 rfl ?_
    exact so_zret d_X_strings_29 rfl
  · refine so_iconst d_X_strings_24 rfl ?_
    refine so_goto d_X_strings_25 (tgt := 29) (by decide) ?_
    exact so_zret d_X_strings_29 rfl
theorem d_X_link_0 : decode prog_9_method_47_code 0 = .ok (.aload_n 0, 1) := by decide +kernel
theorem d_X_link_1 : decode prog_9_method_47_code 1 = .ok (.invokevirtual 226, 3) := by decide +kernel
theorem d_X_link_4 : decode prog_9_method_47_code 4 = .ok (.ifCond .ne 6, 3) := by decide +kernel
theorem d_X_link_7 : decode prog_9_method_47_code 7 = .ok (.bipush (-14), 2) := by decide +kernel
theorem d_X_link_9 : decode prog_9_method_47_code 9 = .ok (.ireturn, 1) := by decide +kernel
theorem d_X_link_10 : decode prog_9_method_47_code 10 = .ok (.aload_n 0, 1) := by decide +kernel
theorem d_X_link_11 : decode prog_9_method_47_code 11 = .ok (.iconst 0, 1) := by decide +kernel
theorem d_X_link_12 : decode prog_9_method_47_code 12 = .ok (.invokevirtual 180, 3) := by decide +kernel
theorem d_X_link_15 : decode prog_9_method_47_code 15 = .ok (.istore_n 1, 1) := by decide +kernel
theorem d_X_link_16 : decode prog_9_method_47_code 16 = .ok (.iload_n 1, 1) := by decide +kernel
theorem d_X_link_17 : decode prog_9_method_47_code 17 = .ok (.ifCond .lt 12, 3) := by decide +kernel
theorem d_X_link_20 : decode prog_9_method_47_code 20 = .ok (.aload_n 0, 1) := by decide +kernel
theorem d_X_link_21 : decode prog_9_method_47_code 21 = .ok (.getfield 74, 3) := by decide +kernel
theorem d_X_link_24 : decode prog_9_method_47_code 24 = .ok (.iconst 1, 1) := by decide +kernel
theorem d_X_link_25 : decode prog_9_method_47_code 25 = .ok (.iaload, 1) := by decide +kernel
theorem d_X_link_26 : decode prog_9_method_47_code 26 = .ok (.ifCond .ne 6, 3) := by decide +kernel
theorem d_X_link_29 : decode prog_9_method_47_code 29 = .ok (.bipush (-2), 2) := by decide +kernel
theorem d_X_link_31 : decode prog_9_method_47_code 31 = .ok (.ireturn, 1) := by decide +kernel
theorem d_X_link_32 : decode prog_9_method_47_code 32 = .ok (.aload_n 0, 1) := by decide +kernel
theorem d_X_link_33 : decode prog_9_method_47_code 33 = .ok (.iconst 1, 1) := by decide +kernel
theorem d_X_link_34 : decode prog_9_method_47_code 34 = .ok (.invokevirtual 180, 3) := by decide +kernel
theorem d_X_link_37 : decode prog_9_method_47_code 37 = .ok (.ifCond .lt 6, 3) := by decide +kernel
theorem d_X_link_40 : decode prog_9_method_47_code 40 = .ok (.bipush (-17), 2) := by decide +kernel
theorem d_X_link_42 : decode prog_9_method_47_code 42 = .ok (.ireturn, 1) := by decide +kernel
theorem d_X_link_43 : decode prog_9_method_47_code 43 = .ok (.aload_n 0, 1) := by decide +kernel
theorem d_X_link_44 : decode prog_9_method_47_code 44 = .ok (.invokevirtual 189, 3) := by decide +kernel
theorem d_X_link_47 : decode prog_9_method_47_code 47 = .ok (.ifCond .ge 6, 3) := by decide +kernel
theorem d_X_link_50 : decode prog_9_method_47_code 50 = .ok (.bipush (-28), 2) := by decide +kernel
theorem d_X_link_52 : decode prog_9_method_47_code 52 = .ok (.ireturn, 1) := by decide +kernel
theorem d_X_link_53 : decode prog_9_method_47_code 53 = .ok (.aload_n 0, 1) := by decide +kernel
theorem d_X_link_54 : decode prog_9_method_47_code 54 = .ok (.aload_n 0, 1) := by decide +kernel
theorem d_X_link_55 : decode prog_9_method_47_code 55 = .ok (.invokevirtual 189, 3) := by decide +kernel
theorem d_X_link_58 : decode prog_9_method_47_code 58 = .ok (.iconst 1, 1) := by decide +kernel
theorem d_X_link_59 : decode prog_9_method_47_code 59 = .ok (.aload_n 0, 1) := by decide +kernel
theorem d_X_link_60 : decode prog_9_method_47_code 60 = .ok (.getfield 38, 3) := by decide +kernel
theorem d_X_link_63 : decode prog_9_method_47_code 63 = .ok (.iload_n 1, 1) := by decide +kernel
theorem d_X_link_64 : decode prog_9_method_47_code 64 = .ok (.iaload, 1) := by decide +kernel
theorem d_X_link_65 : decode prog_9_method_47_code 65 = .ok (.invokevirtual 192, 3) := by decide +kernel
theorem d_X_link_68 : decode prog_9_method_47_code 68 = .ok (.iconst 0, 1) := by decide +kernel
theorem d_X_link_69 : decode prog_9_method_47_code 69 = .ok (.ireturn, 1) := by decide +kernel
def k_X_link_0 (G : oG) (Post : oP) : oK := o_aload 0 <| o_callV G 7 m_X_strings 0 <| o_jmp G m_X_link Post 4 [0]
theorem s_X_link_0 {G : oG} {Post : oP} : oS G m_X_link Post 0 (k_X_link_0 G Post) := by
  unfold k_X_link_0
  refine so_aload_n d_X_link_0 rfl ?_
  refine so_callV cl_7 f_X_strings w_807 w_58 w_805 (by decide) (by decide) d_X_link_1 ?_
  exact so_jmp
def k_X_link_4 (G : oG) (Post : oP) : oK := o_ifne (o_aload 0 <| o_iconst 0 <| o_callV G 7 m_X_name 1 <| o_jmp G m_X_link Post 15 [0]) (o_iconst (-14) <| o_iret Post)
theorem s_X_link_4 {G : oG} {Post : oP} : oS G m_X_link Post 4 (k_X_link_4 G Post) := by
  unfold k_X_link_4
  refine so_ifne d_X_link_4 (tgt := 10) (by decide) ?_ ?_
  · refine so_aload_n d_X_link_10 rfl ?_
    refine so_iconst d_X_link_11 rfl ?_
    refine so_callV cl_7 f_X_name w_711 w_34 w_709 (by decide) (by decide) d_X_link_12 ?_
    exact so_jmp
  · refine so_bipush d_X_link_7 rfl ?_
    exact so_iret d_X_link_9 rfl
def k_X_link_15 (G : oG) (Post : oP) : oK := o_istore 1 <| o_iload 1 <| o_iflt (o_iconst (-2) <| o_iret Post) (o_aload 0 <| o_getf 7 27 <| o_iconst 1 <| o_iald G <| o_ifne (o_aload 0 <| o_iconst 1 <| o_callV G 7 m_X_name 1 <| o_jmp G m_X_link Post 37 [0, 1]) (o_iconst (-2) <| o_iret Post))
theorem s_X_link_15 {G : oG} {Post : oP} : oS G m_X_link Post 15 (k_X_link_15 G Post) := by
  unfold k_X_link_15
  refine so_istore_n d_X_link_15 rfl (by decide) ?_
  refine so_iload_n d_X_link_16 rfl ?_
  refine so_iflt d_X_link_17 (tgt := 29) (by decide) ?_ ?_
  · refine so_bipush d_X_link_29 rfl ?_
    exact so_iret d_X_link_31 rfl
  · refine so_aload_n d_X_link_20 rfl ?_
    refine so_getf cl_7 (k := 27) (by decide) w_589 d_X_link_21 ?_
    refine so_iconst d_X_link_24 rfl ?_
    refine so_iald d_X_link_25 ?_
    refine so_ifne d_X_link_26 (tgt := 32) (by decide) ?_ ?_
    · refine so_aload_n d_X_link_32 rfl ?_
      refine so_iconst d_X_link_33 rfl ?_
      refine so_callV cl_7 f_X_name w_711 w_34 w_709 (by decide) (by decide) d_X_link_34 ?_
      exact so_jmp
    · refine so_bipush d_X_link_29 rfl ?_
      exact so_iret d_X_link_31 rfl
def k_X_link_37 (G : oG) (Post : oP) : oK := o_iflt (o_aload 0 <| o_callV G 7 m_X_freeName 0 <| o_jmp G m_X_link Post 47 [0, 1]) (o_iconst (-17) <| o_iret Post)
theorem s_X_link_37 {G : oG} {Post : oP} : oS G m_X_link Post 37 (k_X_link_37 G Post) := by
  unfold k_X_link_37
  refine so_iflt d_X_link_37 (tgt := 43) (by decide) ?_ ?_
  · refine so_aload_n d_X_link_43 rfl ?_
    refine so_callV cl_7 f_X_freeName w_731 w_39 w_729 (by decide) (by decide) d_X_link_44 ?_
    exact so_jmp
  · refine so_bipush d_X_link_40 rfl ?_
    exact so_iret d_X_link_42 rfl
def k_X_link_47 (G : oG) (Post : oP) : oK := o_ifge (o_aload 0 <| o_aload 0 <| o_callV G 7 m_X_freeName 0 <| o_jmp G m_X_link Post 58 [0, 1]) (o_iconst (-28) <| o_iret Post)
theorem s_X_link_47 {G : oG} {Post : oP} : oS G m_X_link Post 47 (k_X_link_47 G Post) := by
  unfold k_X_link_47
  refine so_ifge d_X_link_47 (tgt := 53) (by decide) ?_ ?_
  · refine so_aload_n d_X_link_53 rfl ?_
    refine so_aload_n d_X_link_54 rfl ?_
    refine so_callV cl_7 f_X_freeName w_731 w_39 w_729 (by decide) (by decide) d_X_link_55 ?_
    exact so_jmp
  · refine so_bipush d_X_link_50 rfl ?_
    exact so_iret d_X_link_52 rfl
def k_X_link_58 (G : oG) (Post : oP) : oK := o_iconst 1 <| o_aload 0 <| o_getf 7 10 <| o_iload 1 <| o_iald G <| o_callV G 7 m_X_give 3 <| o_jmp G m_X_link Post 68 []
theorem s_X_link_58 {G : oG} {Post : oP} : oS G m_X_link Post 58 (k_X_link_58 G Post) := by
  unfold k_X_link_58
  refine so_iconst d_X_link_58 rfl ?_
  refine so_aload_n d_X_link_59 rfl ?_
  refine so_getf cl_7 (k := 10) (by decide) w_572 d_X_link_60 ?_
  refine so_iload_n d_X_link_63 rfl ?_
  refine so_iald d_X_link_64 ?_
  refine so_callV cl_7 f_X_give w_735 w_40 w_733 (by decide) (by decide) d_X_link_65 ?_
  exact so_jmp
def k_X_link_68 (G : oG) (Post : oP) : oK := o_iconst 0 <| o_iret Post
theorem s_X_link_68 {G : oG} {Post : oP} : oS G m_X_link Post 68 (k_X_link_68 G Post) := by
  unfold k_X_link_68
  refine so_iconst d_X_link_68 rfl ?_
  exact so_iret d_X_link_69 rfl
theorem d_X_namesOf_0 : decode prog_9_method_29_code 0 = .ok (.iconst 0, 1) := by decide +kernel
theorem d_X_namesOf_1 : decode prog_9_method_29_code 1 = .ok (.istore_n 2, 1) := by decide +kernel
theorem d_X_namesOf_2 : decode prog_9_method_29_code 2 = .ok (.iconst 0, 1) := by decide +kernel
theorem d_X_namesOf_3 : decode prog_9_method_29_code 3 = .ok (.istore_n 3, 1) := by decide +kernel
theorem d_X_namesOf_4 : decode prog_9_method_29_code 4 = .ok (.iload_n 3, 1) := by decide +kernel
theorem d_X_namesOf_5 : decode prog_9_method_29_code 5 = .ok (.bipush 8, 2) := by decide +kernel
theorem d_X_namesOf_7 : decode prog_9_method_29_code 7 = .ok (.if_icmp .ge 36, 3) := by decide +kernel
theorem d_X_namesOf_10 : decode prog_9_method_29_code 10 = .ok (.iload_n 2, 1) := by decide +kernel
theorem d_X_namesOf_11 : decode prog_9_method_29_code 11 = .ok (.aload_n 0, 1) := by decide +kernel
theorem d_X_namesOf_12 : decode prog_9_method_29_code 12 = .ok (.getfield 32, 3) := by decide +kernel
theorem d_X_namesOf_15 : decode prog_9_method_29_code 15 = .ok (.iload_n 3, 1) := by decide +kernel
theorem d_X_namesOf_16 : decode prog_9_method_29_code 16 = .ok (.iaload, 1) := by decide +kernel
theorem d_X_namesOf_17 : decode prog_9_method_29_code 17 = .ok (.ifCond .le 17, 3) := by decide +kernel
theorem d_X_namesOf_20 : decode prog_9_method_29_code 20 = .ok (.aload_n 0, 1) := by decide +kernel
theorem d_X_namesOf_21 : decode prog_9_method_29_code 21 = .ok (.getfield 38, 3) := by decide +kernel
theorem d_X_namesOf_24 : decode prog_9_method_29_code 24 = .ok (.iload_n 3, 1) := by decide +kernel
theorem d_X_namesOf_25 : decode prog_9_method_29_code 25 = .ok (.iaload, 1) := by decide +kernel
theorem d_X_namesOf_26 : decode prog_9_method_29_code 26 = .ok (.iload_n 1, 1) := by decide +kernel
theorem d_X_namesOf_27 : decode prog_9_method_29_code 27 = .ok (.if_icmp .ne 7, 3) := by decide +kernel
theorem d_X_namesOf_30 : decode prog_9_method_29_code 30 = .ok (.iconst 1, 1) := by decide +kernel
theorem d_X_namesOf_31 : decode prog_9_method_29_code 31 = .ok (.goto 4, 3) := by decide +kernel
theorem d_X_namesOf_34 : decode prog_9_method_29_code 34 = .ok (.iconst 0, 1) := by decide +kernel
theorem d_X_namesOf_35 : decode prog_9_method_29_code 35 = .ok (.iadd, 1) := by decide +kernel
theorem d_X_namesOf_36 : decode prog_9_method_29_code 36 = .ok (.istore_n 2, 1) := by decide +kernel
theorem d_X_namesOf_37 : decode prog_9_method_29_code 37 = .ok (.iinc 3 1, 3) := by decide +kernel
theorem d_X_namesOf_40 : decode prog_9_method_29_code 40 = .ok (.goto (-36), 3) := by decide +kernel
theorem d_X_namesOf_43 : decode prog_9_method_29_code 43 = .ok (.iload_n 2, 1) := by decide +kernel
theorem d_X_namesOf_44 : decode prog_9_method_29_code 44 = .ok (.ireturn, 1) := by decide +kernel
def k_X_namesOf_0 (G : oG) (Post : oP) : oK := o_iconst 0 <| o_istore 2 <| o_iconst 0 <| o_istore 3 <| o_jmp G m_X_namesOf Post 4 [0, 1, 2, 3]
theorem s_X_namesOf_0 {G : oG} {Post : oP} : oS G m_X_namesOf Post 0 (k_X_namesOf_0 G Post) := by
  unfold k_X_namesOf_0
  refine so_iconst d_X_namesOf_0 rfl ?_
  refine so_istore_n d_X_namesOf_1 rfl (by decide) ?_
  refine so_iconst d_X_namesOf_2 rfl ?_
  refine so_istore_n d_X_namesOf_3 rfl (by decide) ?_
  exact so_jmp
def k_X_namesOf_4 (G : oG) (Post : oP) : oK := o_iload 3 <| o_iconst 8 <| o_icmpge (o_iload 2 <| o_iret Post) (o_iload 2 <| o_aload 0 <| o_getf 7 8 <| o_iload 3 <| o_iald G <| o_ifle (o_iconst 0 <| o_iadd <| o_istore 2 <| o_iinc 3 1 <| o_jmp G m_X_namesOf Post 4 [0, 1, 2, 3]) (o_aload 0 <| o_getf 7 10 <| o_iload 3 <| o_iald G <| o_iload 1 <| o_icmpne (o_iconst 0 <| o_iadd <| o_istore 2 <| o_iinc 3 1 <| o_jmp G m_X_namesOf Post 4 [0, 1, 2, 3]) (o_iconst 1 <| o_iadd <| o_istore 2 <| o_iinc 3 1 <| o_jmp G m_X_namesOf Post 4 [0, 1, 2, 3])))
theorem s_X_namesOf_4 {G : oG} {Post : oP} : oS G m_X_namesOf Post 4 (k_X_namesOf_4 G Post) := by
  unfold k_X_namesOf_4
  refine so_iload_n d_X_namesOf_4 rfl ?_
  refine so_bipush d_X_namesOf_5 rfl ?_
  refine so_icmpge d_X_namesOf_7 (tgt := 43) (by decide) ?_ ?_
  · refine so_iload_n d_X_namesOf_43 rfl ?_
    exact so_iret d_X_namesOf_44 rfl
  · refine so_iload_n d_X_namesOf_10 rfl ?_
    refine so_aload_n d_X_namesOf_11 rfl ?_
    refine so_getf cl_7 (k := 8) (by decide) w_570 d_X_namesOf_12 ?_
    refine so_iload_n d_X_namesOf_15 rfl ?_
    refine so_iald d_X_namesOf_16 ?_
    refine so_ifle d_X_namesOf_17 (tgt := 34) (by decide) ?_ ?_
    · refine so_iconst d_X_namesOf_34 rfl ?_
      refine so_iadd d_X_namesOf_35 ?_
      refine so_istore_n d_X_namesOf_36 rfl (by decide) ?_
      refine so_iinc d_X_namesOf_37 rfl (by decide) ?_
      refine so_goto d_X_namesOf_40 (tgt := 4) (by decide) ?_
      exact so_jmp
    · refine so_aload_n d_X_namesOf_20 rfl ?_
      refine so_getf cl_7 (k := 10) (by decide) w_572 d_X_namesOf_21 ?_
      refine so_iload_n d_X_namesOf_24 rfl ?_
      refine so_iald d_X_namesOf_25 ?_
      refine so_iload_n d_X_namesOf_26 rfl ?_
      refine so_icmpne d_X_namesOf_27 (tgt := 34) (by decide) ?_ ?_
      · refine so_iconst d_X_namesOf_34 rfl ?_
        refine so_iadd d_X_namesOf_35 ?_
        refine so_istore_n d_X_namesOf_36 rfl (by decide) ?_
        refine so_iinc d_X_namesOf_37 rfl (by decide) ?_
        refine so_goto d_X_namesOf_40 (tgt := 4) (by decide) ?_
        exact so_jmp
      · refine so_iconst d_X_namesOf_30 rfl ?_
        refine so_goto d_X_namesOf_31 (tgt := 35) (by decide) ?_
        refine so_iadd d_X_namesOf_35 ?_
        refine so_istore_n d_X_namesOf_36 rfl (by decide) ?_
        refine so_iinc d_X_namesOf_37 rfl (by decide) ?_
        refine so_goto d_X_namesOf_40 (tgt := 4) (by decide) ?_
        exact so_jmp
theorem d_X_stat_0 : decode prog_9_method_49_code 0 = .ok (.aload_n 0, 1) := by decide +kernel
theorem d_X_stat_1 : decode prog_9_method_49_code 1 = .ok (.iconst 0, 1) := by decide +kernel
theorem d_X_stat_2 : decode prog_9_method_49_code 2 = .ok (.putfield 162, 3) := by decide +kernel
theorem d_X_stat_5 : decode prog_9_method_49_code 5 = .ok (.aload_n 0, 1) := by decide +kernel
theorem d_X_stat_6 : decode prog_9_method_49_code 6 = .ok (.iconst 0, 1) := by decide +kernel
theorem d_X_stat_7 : decode prog_9_method_49_code 7 = .ok (.aload_n 0, 1) := by decide +kernel
theorem d_X_stat_8 : decode prog_9_method_49_code 8 = .ok (.getfield 96, 3) := by decide +kernel
theorem d_X_stat_11 : decode prog_9_method_49_code 11 = .ok (.invokevirtual 177, 3) := by decide +kernel
theorem d_X_stat_14 : decode prog_9_method_49_code 14 = .ok (.ifCond .eq 16, 3) := by decide +kernel
theorem d_X_stat_17 : decode prog_9_method_49_code 17 = .ok (.aload_n 0, 1) := by decide +kernel
theorem d_X_stat_18 : decode prog_9_method_49_code 18 = .ok (.aload_n 0, 1) := by decide +kernel
theorem d_X_stat_19 : decode prog_9_method_49_code 19 = .ok (.getfield 99, 3) := by decide +kernel
theorem d_X_stat_22 : decode prog_9_method_49_code 22 = .ok (.iconst 3, 1) := by decide +kernel
theorem d_X_stat_23 : decode prog_9_method_49_code 23 = .ok (.iconst 2, 1) := by decide +kernel
theorem d_X_stat_24 : decode prog_9_method_49_code 24 = .ok (.invokevirtual 203, 3) := by decide +kernel
theorem d_X_stat_27 : decode prog_9_method_49_code 27 = .ok (.ifCond .ne 6, 3) := by decide +kernel
theorem d_X_stat_30 : decode prog_9_method_49_code 30 = .ok (.bipush (-14), 2) := by decide +kernel
theorem d_X_stat_32 : decode prog_9_method_49_code 32 = .ok (.ireturn, 1) := by decide +kernel
theorem d_X_stat_33 : decode prog_9_method_49_code 33 = .ok (.aload_n 0, 1) := by decide +kernel
theorem d_X_stat_34 : decode prog_9_method_49_code 34 = .ok (.iconst 0, 1) := by decide +kernel
theorem d_X_stat_35 : decode prog_9_method_49_code 35 = .ok (.invokevirtual 180, 3) := by decide +kernel
theorem d_X_stat_38 : decode prog_9_method_49_code 38 = .ok (.istore_n 1, 1) := by decide +kernel
theorem d_X_stat_39 : decode prog_9_method_49_code 39 = .ok (.iload_n 1, 1) := by decide +kernel
theorem d_X_stat_40 : decode prog_9_method_49_code 40 = .ok (.ifCond .ge 6, 3) := by decide +kernel
theorem d_X_stat_43 : decode prog_9_method_49_code 43 = .ok (.bipush (-2), 2) := by decide +kernel
theorem d_X_stat_45 : decode prog_9_method_49_code 45 = .ok (.ireturn, 1) := by decide +kernel
theorem d_X_stat_46 : decode prog_9_method_49_code 46 = .ok (.aload_n 0, 1) := by decide +kernel
theorem d_X_stat_47 : decode prog_9_method_49_code 47 = .ok (.getfield 38, 3) := by decide +kernel
theorem d_X_stat_50 : decode prog_9_method_49_code 50 = .ok (.iload_n 1, 1) := by decide +kernel
theorem d_X_stat_51 : decode prog_9_method_49_code 51 = .ok (.iaload, 1) := by decide +kernel
theorem d_X_stat_52 : decode prog_9_method_49_code 52 = .ok (.istore_n 2, 1) := by decide +kernel
theorem d_X_stat_53 : decode prog_9_method_49_code 53 = .ok (.aload_n 0, 1) := by decide +kernel
theorem d_X_stat_54 : decode prog_9_method_49_code 54 = .ok (.getfield 7, 3) := by decide +kernel
theorem d_X_stat_57 : decode prog_9_method_49_code 57 = .ok (.aload_n 0, 1) := by decide +kernel
theorem d_X_stat_58 : decode prog_9_method_49_code 58 = .ok (.getfield 65, 3) := by decide +kernel
theorem d_X_stat_61 : decode prog_9_method_49_code 61 = .ok (.iconst 0, 1) := by decide +kernel
theorem d_X_stat_62 : decode prog_9_method_49_code 62 = .ok (.iaload, 1) := by decide +kernel
theorem d_X_stat_63 : decode prog_9_method_49_code 63 = .ok (.aload_n 0, 1) := by decide +kernel
theorem d_X_stat_64 : decode prog_9_method_49_code 64 = .ok (.getfield 26, 3) := by decide +kernel
theorem d_X_stat_67 : decode prog_9_method_49_code 67 = .ok (.iload_n 2, 1) := by decide +kernel
theorem d_X_stat_68 : decode prog_9_method_49_code 68 = .ok (.iaload, 1) := by decide +kernel
theorem d_X_stat_69 : decode prog_9_method_49_code 69 = .ok (.iastore, 1) := by decide +kernel
theorem d_X_stat_70 : decode prog_9_method_49_code 70 = .ok (.aload_n 0, 1) := by decide +kernel
theorem d_X_stat_71 : decode prog_9_method_49_code 71 = .ok (.getfield 7, 3) := by decide +kernel
theorem d_X_stat_74 : decode prog_9_method_49_code 74 = .ok (.aload_n 0, 1) := by decide +kernel
theorem d_X_stat_75 : decode prog_9_method_49_code 75 = .ok (.getfield 65, 3) := by decide +kernel
theorem d_X_stat_78 : decode prog_9_method_49_code 78 = .ok (.iconst 1, 1) := by decide +kernel
theorem d_X_stat_79 : decode prog_9_method_49_code 79 = .ok (.iaload, 1) := by decide +kernel
theorem d_X_stat_80 : decode prog_9_method_49_code 80 = .ok (.aload_n 0, 1) := by decide +kernel
theorem d_X_stat_81 : decode prog_9_method_49_code 81 = .ok (.iload_n 2, 1) := by decide +kernel
theorem d_X_stat_82 : decode prog_9_method_49_code 82 = .ok (.invokevirtual 168, 3) := by decide +kernel
theorem d_X_stat_85 : decode prog_9_method_49_code 85 = .ok (.iastore, 1) := by decide +kernel
theorem d_X_stat_86 : decode prog_9_method_49_code 86 = .ok (.aload_n 0, 1) := by decide +kernel
theorem d_X_stat_87 : decode prog_9_method_49_code 87 = .ok (.getfield 7, 3) := by decide +kernel
theorem d_X_stat_90 : decode prog_9_method_49_code 90 = .ok (.aload_n 0, 1) := by decide +kernel
theorem d_X_stat_91 : decode prog_9_method_49_code 91 = .ok (.getfield 65, 3) := by decide +kernel
theorem d_X_stat_94 : decode prog_9_method_49_code 94 = .ok (.iconst 2, 1) := by decide +kernel
theorem d_X_stat_95 : decode prog_9_method_49_code 95 = .ok (.iaload, 1) := by decide +kernel
theorem d_X_stat_96 : decode prog_9_method_49_code 96 = .ok (.aload_n 0, 1) := by decide +kernel
theorem d_X_stat_97 : decode prog_9_method_49_code 97 = .ok (.iconst 1, 1) := by decide +kernel
theorem d_X_stat_98 : decode prog_9_method_49_code 98 = .ok (.iload_n 2, 1) := by decide +kernel
theorem d_X_stat_99 : decode prog_9_method_49_code 99 = .ok (.invokevirtual 171, 3) := by decide +kernel
theorem d_X_stat_102 : decode prog_9_method_49_code 102 = .ok (.iastore, 1) := by decide +kernel
theorem d_X_stat_103 : decode prog_9_method_49_code 103 = .ok (.iconst 0, 1) := by decide +kernel
theorem d_X_stat_104 : decode prog_9_method_49_code 104 = .ok (.ireturn, 1) := by decide +kernel
def k_X_stat_0 (G : oG) (Post : oP) : oK := o_aload 0 <| o_iconst 0 <| o_putfI 7 23 <| o_aload 0 <| o_iconst 0 <| o_aload 0 <| o_getf 7 20 <| o_callV G 7 m_X_string 2 <| o_jmp G m_X_stat Post 14 [0]
theorem s_X_stat_0 {G : oG} {Post : oP} : oS G m_X_stat Post 0 (k_X_stat_0 G Post) := by
  unfold k_X_stat_0
  refine so_aload_n d_X_stat_0 rfl ?_
  refine so_iconst d_X_stat_1 rfl ?_
  refine so_putfI cl_7 (k := 23) (by decide) rfl rfl w_585 d_X_stat_2 ?_
  refine so_aload_n d_X_stat_5 rfl ?_
  refine so_iconst d_X_stat_6 rfl ?_
  refine so_aload_n d_X_stat_7 rfl ?_
  refine so_getf cl_7 (k := 20) (by decide) w_582 d_X_stat_8 ?_
  refine so_callV cl_7 f_X_string w_703 w_32 w_701 (by decide) (by decide) d_X_stat_11 ?_
  exact so_jmp
def k_X_stat_14 (G : oG) (Post : oP) : oK := o_ifeq (o_iconst (-14) <| o_iret Post) (o_aload 0 <| o_aload 0 <| o_getf 7 21 <| o_iconst 3 <| o_iconst 2 <| o_callV G 7 m_X_range 3 <| o_jmp G m_X_stat Post 27 [0])
theorem s_X_stat_14 {G : oG} {Post : oP} : oS G m_X_stat Post 14 (k_X_stat_14 G Post) := by
  unfold k_X_stat_14
  refine so_ifeq d_X_stat_14 (tgt := 30) (by decide) ?_ ?_
  · refine so_bipush d_X_stat_30 rfl ?_
    exact so_iret d_X_stat_32 rfl
  · refine so_aload_n d_X_stat_17 rfl ?_
    refine so_aload_n d_X_stat_18 rfl ?_
    refine so_getf cl_7 (k := 21) (by decide) w_583 d_X_stat_19 ?_
    refine so_iconst d_X_stat_22 rfl ?_
    refine so_iconst d_X_stat_23 rfl ?_
    refine so_callV cl_7 f_X_range w_759 w_46 w_757 (by decide) (by decide) d_X_stat_24 ?_
    exact so_jmp
def k_X_stat_27 (G : oG) (Post : oP) : oK := o_ifne (o_aload 0 <| o_iconst 0 <| o_callV G 7 m_X_name 1 <| o_jmp G m_X_stat Post 38 [0]) (o_iconst (-14) <| o_iret Post)
theorem s_X_stat_27 {G : oG} {Post : oP} : oS G m_X_stat Post 27 (k_X_stat_27 G Post) := by
  unfold k_X_stat_27
  refine so_ifne d_X_stat_27 (tgt := 33) (by decide) ?_ ?_
  · refine so_aload_n d_X_stat_33 rfl ?_
    refine so_iconst d_X_stat_34 rfl ?_
    refine so_callV cl_7 f_X_name w_711 w_34 w_709 (by decide) (by decide) d_X_stat_35 ?_
    exact so_jmp
  · refine so_bipush d_X_stat_30 rfl ?_
    exact so_iret d_X_stat_32 rfl
def k_X_stat_38 (G : oG) (Post : oP) : oK := o_istore 1 <| o_iload 1 <| o_ifge (o_jmp G m_X_stat Post 46 [0, 1]) (o_iconst (-2) <| o_iret Post)
theorem s_X_stat_38 {G : oG} {Post : oP} : oS G m_X_stat Post 38 (k_X_stat_38 G Post) := by
  unfold k_X_stat_38
  refine so_istore_n d_X_stat_38 rfl (by decide) ?_
  refine so_iload_n d_X_stat_39 rfl ?_
  refine so_ifge d_X_stat_40 (tgt := 46) (by decide) ?_ ?_
  · exact so_jmp
  · refine so_bipush d_X_stat_43 rfl ?_
    exact so_iret d_X_stat_45 rfl
def k_X_stat_46 (G : oG) (Post : oP) : oK := o_aload 0 <| o_getf 7 10 <| o_iload 1 <| o_iald G <| o_istore 2 <| o_aload 0 <| o_getf 7 0 <| o_aload 0 <| o_getf 7 24 <| o_iconst 0 <| o_iald G <| o_aload 0 <| o_getf 7 6 <| o_iload 2 <| o_iald G <| o_iast <| o_aload 0 <| o_getf 7 0 <| o_aload 0 <| o_getf 7 24 <| o_iconst 1 <| o_iald G <| o_aload 0 <| o_iload 2 <| o_callV G 7 m_X_namesOf 1 <| o_jmp G m_X_stat Post 85 [0, 2]
theorem s_X_stat_46 {G : oG} {Post : oP} : oS G m_X_stat Post 46 (k_X_stat_46 G Post) := by
  unfold k_X_stat_46
  refine so_aload_n d_X_stat_46 rfl ?_
  refine so_getf cl_7 (k := 10) (by decide) w_572 d_X_stat_47 ?_
  refine so_iload_n d_X_stat_50 rfl ?_
  refine so_iald d_X_stat_51 ?_
  refine so_istore_n d_X_stat_52 rfl (by decide) ?_
  refine so_aload_n d_X_stat_53 rfl ?_
  refine so_getf cl_7 (k := 0) (by decide) w_562 d_X_stat_54 ?_
  refine so_aload_n d_X_stat_57 rfl ?_
  refine so_getf cl_7 (k := 24) (by decide) w_586 d_X_stat_58 ?_
  refine so_iconst d_X_stat_61 rfl ?_
  refine so_iald d_X_stat_62 ?_
  refine so_aload_n d_X_stat_63 rfl ?_
  refine so_getf cl_7 (k := 6) (by decide) w_568 d_X_stat_64 ?_
  refine so_iload_n d_X_stat_67 rfl ?_
  refine so_iald d_X_stat_68 ?_
  refine so_iast d_X_stat_69 ?_
  refine so_aload_n d_X_stat_70 rfl ?_
  refine so_getf cl_7 (k := 0) (by decide) w_562 d_X_stat_71 ?_
  refine so_aload_n d_X_stat_74 rfl ?_
  refine so_getf cl_7 (k := 24) (by decide) w_586 d_X_stat_75 ?_
  refine so_iconst d_X_stat_78 rfl ?_
  refine so_iald d_X_stat_79 ?_
  refine so_aload_n d_X_stat_80 rfl ?_
  refine so_iload_n d_X_stat_81 rfl ?_
  refine so_callV cl_7 f_X_namesOf w_815 w_60 w_813 (by decide) (by decide) d_X_stat_82 ?_
  exact so_jmp
def k_X_stat_85 (G : oG) (Post : oP) : oK := o_iast <| o_aload 0 <| o_getf 7 0 <| o_aload 0 <| o_getf 7 24 <| o_iconst 2 <| o_iald G <| o_aload 0 <| o_iconst 1 <| o_iload 2 <| o_callV G 7 m_X_opensOf 2 <| o_jmp G m_X_stat Post 102 []
theorem s_X_stat_85 {G : oG} {Post : oP} : oS G m_X_stat Post 85 (k_X_stat_85 G Post) := by
  unfold k_X_stat_85
  refine so_iast d_X_stat_85 ?_
  refine so_aload_n d_X_stat_86 rfl ?_
  refine so_getf cl_7 (k := 0) (by decide) w_562 d_X_stat_87 ?_
  refine so_aload_n d_X_stat_90 rfl ?_
  refine so_getf cl_7 (k := 24) (by decide) w_586 d_X_stat_91 ?_
  refine so_iconst d_X_stat_94 rfl ?_
  refine so_iald d_X_stat_95 ?_
  refine so_aload_n d_X_stat_96 rfl ?_
  refine so_iconst d_X_stat_97 rfl ?_
  refine so_iload_n d_X_stat_98 rfl ?_
  refine so_callV cl_7 f_X_opensOf w_775 w_50 w_773 (by decide) (by decide) d_X_stat_99 ?_
  exact so_jmp
def k_X_stat_102 (G : oG) (Post : oP) : oK := o_iast <| o_iconst 0 <| o_iret Post
theorem s_X_stat_102 {G : oG} {Post : oP} : oS G m_X_stat Post 102 (k_X_stat_102 G Post) := by
  unfold k_X_stat_102
  refine so_iast d_X_stat_102 ?_
  refine so_iconst d_X_stat_103 rfl ?_
  exact so_iret d_X_stat_104 rfl
