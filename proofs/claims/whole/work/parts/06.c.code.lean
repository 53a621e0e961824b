/-! code in blocks, by program -/
theorem d_O_init_0 : decode prog_4_method_1_code 0 = .ok (.aload_n 0, 1) := by decide +kernel
theorem d_O_init_1 : decode prog_4_method_1_code 1 = .ok (.invokespecial 3, 3) := by decide +kernel
theorem d_O_init_4 : decode prog_4_method_1_code 4 = .ok (.aload_n 0, 1) := by decide +kernel
theorem d_O_init_5 : decode prog_4_method_1_code 5 = .ok (.bipush 15, 2) := by decide +kernel
theorem d_O_init_7 : decode prog_4_method_1_code 7 = .ok (.newarray .int, 2) := by decide +kernel
theorem d_O_init_9 : decode prog_4_method_1_code 9 = .ok (.putfield 9, 3) := by decide +kernel
theorem d_O_init_12 : decode prog_4_method_1_code 12 = .ok (.aload_n 0, 1) := by decide +kernel
theorem d_O_init_13 : decode prog_4_method_1_code 13 = .ok (.bipush 8, 2) := by decide +kernel
theorem d_O_init_15 : decode prog_4_method_1_code 15 = .ok (.newarray .int, 2) := by decide +kernel
theorem d_O_init_17 : decode prog_4_method_1_code 17 = .ok (.putfield 15, 3) := by decide +kernel
theorem d_O_init_20 : decode prog_4_method_1_code 20 = .ok (.aload_n 0, 1) := by decide +kernel
theorem d_O_init_21 : decode prog_4_method_1_code 21 = .ok (.bipush 8, 2) := by decide +kernel
theorem d_O_init_23 : decode prog_4_method_1_code 23 = .ok (.newarray .int, 2) := by decide +kernel
theorem d_O_init_25 : decode prog_4_method_1_code 25 = .ok (.putfield 18, 3) := by decide +kernel
theorem d_O_init_28 : decode prog_4_method_1_code 28 = .ok (.aload_n 0, 1) := by decide +kernel
theorem d_O_init_29 : decode prog_4_method_1_code 29 = .ok (.bipush 8, 2) := by decide +kernel
theorem d_O_init_31 : decode prog_4_method_1_code 31 = .ok (.newarray .int, 2) := by decide +kernel
theorem d_O_init_33 : decode prog_4_method_1_code 33 = .ok (.putfield 21, 3) := by decide +kernel
theorem d_O_init_36 : decode prog_4_method_1_code 36 = .ok (.aload_n 0, 1) := by decide +kernel
theorem d_O_init_37 : decode prog_4_method_1_code 37 = .ok (.bipush 8, 2) := by decide +kernel
theorem d_O_init_39 : decode prog_4_method_1_code 39 = .ok (.newarray .int, 2) := by decide +kernel
theorem d_O_init_41 : decode prog_4_method_1_code 41 = .ok (.putfield 24, 3) := by decide +kernel
theorem d_O_init_44 : decode prog_4_method_1_code 44 = .ok (.aload_n 0, 1) := by decide +kernel
theorem d_O_init_45 : decode prog_4_method_1_code 45 = .ok (.getfield 9, 3) := by decide +kernel
theorem d_O_init_48 : decode prog_4_method_1_code 48 = .ok (.iconst (-1), 1) := by decide +kernel
theorem d_O_init_49 : decode prog_4_method_1_code 49 = .ok (.invokestatic 27, 3) := by decide +kernel
theorem d_O_init_52 : decode prog_4_method_1_code 52 = .ok (.return_, 1) := by decide +kernel
def k_O_init_0 (G : oG) (Post : oP) : oK := o_aload 0 <| o_objInit <| o_aload 0 <| o_iconst 15 <| o_newa 0 (.inl (fun _ => 0)) <| o_putfR 2 0 <| o_aload 0 <| o_iconst 8 <| o_newa 0 (.inl (fun _ => 0)) <| o_putfR 2 1 <| o_aload 0 <| o_iconst 8 <| o_newa 0 (.inl (fun _ => 0)) <| o_putfR 2 2 <| o_aload 0 <| o_iconst 8 <| o_newa 0 (.inl (fun _ => 0)) <| o_putfR 2 3 <| o_aload 0 <| o_iconst 8 <| o_newa 0 (.inl (fun _ => 0)) <| o_putfR 2 4 <| o_aload 0 <| o_getf 2 0 <| o_iconst (-1) <| o_callS G m_A_fill 2 <| o_jmp G m_O_init Post 52 []
theorem s_O_init_0 {G : oG} {Post : oP} : oS G m_O_init Post 0 (k_O_init_0 G Post) := by
  unfold k_O_init_0
  refine so_aload_n d_O_init_0 rfl ?_
  refine so_objInit w_130 w_85 w_objcode (by decide) (by decide) d_O_init_1 ?_
  refine so_aload_n d_O_init_4 rfl ?_
  refine so_bipush d_O_init_5 rfl ?_
  refine so_newa (ty := .int) rfl w_104 (t := 0) rfl (fun _ q => by cases q) (by decide) rfl (fun _ _ => rfl) d_O_init_7 ?_
  refine so_putfRF cl_2 (k := 0) (by decide) (Or.inr ⟨_, rfl⟩) rfl rfl rfl w_132 d_O_init_9 ?_
  refine so_aload_n d_O_init_12 rfl ?_
  refine so_bipush d_O_init_13 rfl ?_
  refine so_newa (ty := .int) rfl w_104 (t := 0) rfl (fun _ q => by cases q) (by decide) rfl (fun _ _ => rfl) d_O_init_15 ?_
  refine so_putfRF cl_2 (k := 1) (by decide) (Or.inr ⟨_, rfl⟩) rfl rfl rfl w_133 d_O_init_17 ?_
  refine so_aload_n d_O_init_20 rfl ?_
  refine so_bipush d_O_init_21 rfl ?_
  refine so_newa (ty := .int) rfl w_104 (t := 0) rfl (fun _ q => by cases q) (by decide) rfl (fun _ _ => rfl) d_O_init_23 ?_
  refine so_putfRF cl_2 (k := 2) (by decide) (Or.inr ⟨_, rfl⟩) rfl rfl rfl w_134 d_O_init_25 ?_
  refine so_aload_n d_O_init_28 rfl ?_
  refine so_bipush d_O_init_29 rfl ?_
  refine so_newa (ty := .int) rfl w_104 (t := 0) rfl (fun _ q => by cases q) (by decide) rfl (fun _ _ => rfl) d_O_init_31 ?_
  refine so_putfRF cl_2 (k := 3) (by decide) (Or.inr ⟨_, rfl⟩) rfl rfl rfl w_136 d_O_init_33 ?_
  refine so_aload_n d_O_init_36 rfl ?_
  refine so_bipush d_O_init_37 rfl ?_
  refine so_newa (ty := .int) rfl w_104 (t := 0) rfl (fun _ q => by cases q) (by decide) rfl (fun _ _ => rfl) d_O_init_39 ?_
  refine so_putfRF cl_2 (k := 4) (by decide) (Or.inr ⟨_, rfl⟩) rfl rfl rfl w_137 d_O_init_41 ?_
  refine so_aload_n d_O_init_44 rfl ?_
  refine so_getf cl_2 (k := 0) (by decide) w_132 d_O_init_45 ?_
  refine so_iconst d_O_init_48 rfl ?_
  refine so_callS f_A_fill w_94 w_131 (by decide) (by decide) d_O_init_49 ?_
  exact so_jmp
def k_O_init_52 (G : oG) (Post : oP) : oK := o_vret Post
theorem s_O_init_52 {G : oG} {Post : oP} : oS G m_O_init Post 52 (k_O_init_52 G Post) := by
  unfold k_O_init_52
  exact so_vret d_O_init_52 rfl
theorem d_O_leastClosed_0 : decode prog_4_method_6_code 0 = .ok (.iload_n 2, 1) := by decide +kernel
theorem d_O_leastClosed_1 : decode prog_4_method_6_code 1 = .ok (.istore_n 3, 1) := by decide +kernel
theorem d_O_leastClosed_2 : decode prog_4_method_6_code 2 = .ok (.iload_n 3, 1) := by decide +kernel
theorem d_O_leastClosed_3 : decode prog_4_method_6_code 3 = .ok (.iconst 5, 1) := by decide +kernel
theorem d_O_leastClosed_4 : decode prog_4_method_6_code 4 = .ok (.if_icmp .ge 25, 3) := by decide +kernel
theorem d_O_leastClosed_7 : decode prog_4_method_6_code 7 = .ok (.aload_n 0, 1) := by decide +kernel
theorem d_O_leastClosed_8 : decode prog_4_method_6_code 8 = .ok (.getfield 9, 3) := by decide +kernel
theorem d_O_leastClosed_11 : decode prog_4_method_6_code 11 = .ok (.iload_n 1, 1) := by decide +kernel
theorem d_O_leastClosed_12 : decode prog_4_method_6_code 12 = .ok (.iconst 5, 1) := by decide +kernel
theorem d_O_leastClosed_13 : decode prog_4_method_6_code 13 = .ok (.imul, 1) := by decide +kernel
theorem d_O_leastClosed_14 : decode prog_4_method_6_code 14 = .ok (.iload_n 3, 1) := by decide +kernel
theorem d_O_leastClosed_15 : decode prog_4_method_6_code 15 = .ok (.iadd, 1) := by decide +kernel
theorem d_O_leastClosed_16 : decode prog_4_method_6_code 16 = .ok (.iaload, 1) := by decide +kernel
theorem d_O_leastClosed_17 : decode prog_4_method_6_code 17 = .ok (.iconst (-1), 1) := by decide +kernel
theorem d_O_leastClosed_18 : decode prog_4_method_6_code 18 = .ok (.if_icmp .ne 5, 3) := by decide +kernel
theorem d_O_leastClosed_21 : decode prog_4_method_6_code 21 = .ok (.iload_n 3, 1) := by decide +kernel
theorem d_O_leastClosed_22 : decode prog_4_method_6_code 22 = .ok (.ireturn, 1) := by decide +kernel
theorem d_O_leastClosed_23 : decode prog_4_method_6_code 23 = .ok (.iinc 3 1, 3) := by decide +kernel
theorem d_O_leastClosed_26 : decode prog_4_method_6_code 26 = .ok (.goto (-24), 3) := by decide +kernel
theorem d_O_leastClosed_29 : decode prog_4_method_6_code 29 = .ok (.iconst (-1), 1) := by decide +kernel
theorem d_O_leastClosed_30 : decode prog_4_method_6_code 30 = .ok (.ireturn, 1) := by decide +kernel
def k_O_leastClosed_0 (G : oG) (Post : oP) : oK := o_iload 2 <| o_istore 3 <| o_jmp G m_O_leastClosed Post 2 [0, 1, 3]
theorem s_O_leastClosed_0 {G : oG} {Post : oP} : oS G m_O_leastClosed Post 0 (k_O_leastClosed_0 G Post) := by
  unfold k_O_leastClosed_0
  refine so_iload_n d_O_leastClosed_0 rfl ?_
  refine so_istore_n d_O_leastClosed_1 rfl (by decide) ?_
  exact so_jmp
def k_O_leastClosed_2 (G : oG) (Post : oP) : oK := o_iload 3 <| o_iconst 5 <| o_icmpge (o_iconst (-1) <| o_iret Post) (o_aload 0 <| o_getf 2 0 <| o_iload 1 <| o_iconst 5 <| o_imul <| o_iload 3 <| o_iadd <| o_iald G <| o_iconst (-1) <| o_icmpne (o_iinc 3 1 <| o_jmp G m_O_leastClosed Post 2 [0, 1, 3]) (o_iload 3 <| o_iret Post))
theorem s_O_leastClosed_2 {G : oG} {Post : oP} : oS G m_O_leastClosed Post 2 (k_O_leastClosed_2 G Post) := by
  unfold k_O_leastClosed_2
  refine so_iload_n d_O_leastClosed_2 rfl ?_
  refine so_iconst d_O_leastClosed_3 rfl ?_
  refine so_icmpge d_O_leastClosed_4 (tgt := 29) (by decide) ?_ ?_
  · refine so_iconst d_O_leastClosed_29 rfl ?_
    exact so_iret d_O_leastClosed_30 rfl
  · refine so_aload_n d_O_leastClosed_7 rfl ?_
    refine so_getf cl_2 (k := 0) (by decide) w_132 d_O_leastClosed_8 ?_
    refine so_iload_n d_O_leastClosed_11 rfl ?_
    refine so_iconst d_O_leastClosed_12 rfl ?_
    refine so_imul d_O_leastClosed_13 ?_
    refine so_iload_n d_O_leastClosed_14 rfl ?_
    refine so_iadd d_O_leastClosed_15 ?_
    refine so_iald d_O_leastClosed_16 ?_
    refine so_iconst d_O_leastClosed_17 rfl ?_
    refine so_icmpne d_O_leastClosed_18 (tgt := 23) (by decide) ?_ ?_
    · refine so_iinc d_O_leastClosed_23 rfl (by decide) ?_
      refine so_goto d_O_leastClosed_26 (tgt := 2) (by decide) ?_
      exact so_jmp
    · refine so_iload_n d_O_leastClosed_21 rfl ?_
      exact so_iret d_O_leastClosed_22 rfl
theorem d_O_leastFree_0 : decode prog_4_method_8_code 0 = .ok (.iload_n 1, 1) := by decide +kernel
theorem d_O_leastFree_1 : decode prog_4_method_8_code 1 = .ok (.istore_n 2, 1) := by decide +kernel
theorem d_O_leastFree_2 : decode prog_4_method_8_code 2 = .ok (.iload_n 2, 1) := by decide +kernel
theorem d_O_leastFree_3 : decode prog_4_method_8_code 3 = .ok (.bipush 8, 2) := by decide +kernel
theorem d_O_leastFree_5 : decode prog_4_method_8_code 5 = .ok (.if_icmp .ge 20, 3) := by decide +kernel
theorem d_O_leastFree_8 : decode prog_4_method_8_code 8 = .ok (.aload_n 0, 1) := by decide +kernel
theorem d_O_leastFree_9 : decode prog_4_method_8_code 9 = .ok (.getfield 15, 3) := by decide +kernel
theorem d_O_leastFree_12 : decode prog_4_method_8_code 12 = .ok (.iload_n 2, 1) := by decide +kernel
theorem d_O_leastFree_13 : decode prog_4_method_8_code 13 = .ok (.iaload, 1) := by decide +kernel
theorem d_O_leastFree_14 : decode prog_4_method_8_code 14 = .ok (.ifCond .ne 5, 3) := by decide +kernel
theorem d_O_leastFree_17 : decode prog_4_method_8_code 17 = .ok (.iload_n 2, 1) := by decide +kernel
theorem d_O_leastFree_18 : decode prog_4_method_8_code 18 = .ok (.ireturn, 1) := by decide +kernel
theorem d_O_leastFree_19 : decode prog_4_method_8_code 19 = .ok (.iinc 2 1, 3) := by decide +kernel
theorem d_O_leastFree_22 : decode prog_4_method_8_code 22 = .ok (.goto (-20), 3) := by decide +kernel
theorem d_O_leastFree_25 : decode prog_4_method_8_code 25 = .ok (.iconst (-1), 1) := by decide +kernel
theorem d_O_leastFree_26 : decode prog_4_method_8_code 26 = .ok (.ireturn, 1) := by decide +kernel
def k_O_leastFree_0 (G : oG) (Post : oP) : oK := o_iload 1 <| o_istore 2 <| o_jmp G m_O_leastFree Post 2 [0, 2]
theorem s_O_leastFree_0 {G : oG} {Post : oP} : oS G m_O_leastFree Post 0 (k_O_leastFree_0 G Post) := by
  unfold k_O_leastFree_0
  refine so_iload_n d_O_leastFree_0 rfl ?_
  refine so_istore_n d_O_leastFree_1 rfl (by decide) ?_
  exact so_jmp
def k_O_leastFree_2 (G : oG) (Post : oP) : oK := o_iload 2 <| o_iconst 8 <| o_icmpge (o_iconst (-1) <| o_iret Post) (o_aload 0 <| o_getf 2 1 <| o_iload 2 <| o_iald G <| o_ifne (o_iinc 2 1 <| o_jmp G m_O_leastFree Post 2 [0, 2]) (o_iload 2 <| o_iret Post))
theorem s_O_leastFree_2 {G : oG} {Post : oP} : oS G m_O_leastFree Post 2 (k_O_leastFree_2 G Post) := by
  unfold k_O_leastFree_2
  refine so_iload_n d_O_leastFree_2 rfl ?_
  refine so_bipush d_O_leastFree_3 rfl ?_
  refine so_icmpge d_O_leastFree_5 (tgt := 25) (by decide) ?_ ?_
  · refine so_iconst d_O_leastFree_25 rfl ?_
    exact so_iret d_O_leastFree_26 rfl
  · refine so_aload_n d_O_leastFree_8 rfl ?_
    refine so_getf cl_2 (k := 1) (by decide) w_133 d_O_leastFree_9 ?_
    refine so_iload_n d_O_leastFree_12 rfl ?_
    refine so_iald d_O_leastFree_13 ?_
    refine so_ifne d_O_leastFree_14 (tgt := 19) (by decide) ?_ ?_
    · refine so_iinc d_O_leastFree_19 rfl (by decide) ?_
      refine so_goto d_O_leastFree_22 (tgt := 2) (by decide) ?_
      exact so_jmp
    · refine so_iload_n d_O_leastFree_17 rfl ?_
      exact so_iret d_O_leastFree_18 rfl
theorem d_O_countOf_0 : decode prog_4_method_10_code 0 = .ok (.iconst 0, 1) := by decide +kernel
theorem d_O_countOf_1 : decode prog_4_method_10_code 1 = .ok (.istore_n 3, 1) := by decide +kernel
theorem d_O_countOf_2 : decode prog_4_method_10_code 2 = .ok (.iconst 0, 1) := by decide +kernel
theorem d_O_countOf_3 : decode prog_4_method_10_code 3 = .ok (.istore 4, 2) := by decide +kernel
theorem d_O_countOf_5 : decode prog_4_method_10_code 5 = .ok (.iload 4, 2) := by decide +kernel
theorem d_O_countOf_7 : decode prog_4_method_10_code 7 = .ok (.bipush 8, 2) := by decide +kernel
theorem d_O_countOf_9 : decode prog_4_method_10_code 9 = .ok (.if_icmp .ge 45, 3) := by decide +kernel
theorem d_O_countOf_12 : decode prog_4_method_10_code 12 = .ok (.aload_n 0, 1) := by decide +kernel
theorem d_O_countOf_13 : decode prog_4_method_10_code 13 = .ok (.getfield 15, 3) := by decide +kernel
theorem d_O_countOf_16 : decode prog_4_method_10_code 16 = .ok (.iload 4, 2) := by decide +kernel
theorem d_O_countOf_18 : decode prog_4_method_10_code 18 = .ok (.iaload, 1) := by decide +kernel
theorem d_O_countOf_19 : decode prog_4_method_10_code 19 = .ok (.ifCond .le 29, 3) := by decide +kernel
theorem d_O_countOf_22 : decode prog_4_method_10_code 22 = .ok (.aload_n 0, 1) := by decide +kernel
theorem d_O_countOf_23 : decode prog_4_method_10_code 23 = .ok (.getfield 18, 3) := by decide +kernel
theorem d_O_countOf_26 : decode prog_4_method_10_code 26 = .ok (.iload 4, 2) := by decide +kernel
theorem d_O_countOf_28 : decode prog_4_method_10_code 28 = .ok (.iaload, 1) := by decide +kernel
theorem d_O_countOf_29 : decode prog_4_method_10_code 29 = .ok (.iload_n 1, 1) := by decide +kernel
theorem d_O_countOf_30 : decode prog_4_method_10_code 30 = .ok (.if_icmp .ne 18, 3) := by decide +kernel
theorem d_O_countOf_33 : decode prog_4_method_10_code 33 = .ok (.aload_n 0, 1) := by decide +kernel
theorem d_O_countOf_34 : decode prog_4_method_10_code 34 = .ok (.getfield 21, 3) := by decide +kernel
theorem d_O_countOf_37 : decode prog_4_method_10_code 37 = .ok (.iload 4, 2) := by decide +kernel
theorem d_O_countOf_39 : decode prog_4_method_10_code 39 = .ok (.iaload, 1) := by decide +kernel
theorem d_O_countOf_40 : decode prog_4_method_10_code 40 = .ok (.iload_n 2, 1) := by decide +kernel
theorem d_O_countOf_41 : decode prog_4_method_10_code 41 = .ok (.iand, 1) := by decide +kernel
theorem d_O_countOf_42 : decode prog_4_method_10_code 42 = .ok (.ifCond .eq 6, 3) := by decide +kernel
theorem d_O_countOf_45 : decode prog_4_method_10_code 45 = .ok (.iinc 3 1, 3) := by decide +kernel
theorem d_O_countOf_48 : decode prog_4_method_10_code 48 = .ok (.iinc 4 1, 3) := by decide +kernel
theorem d_O_countOf_51 : decode prog_4_method_10_code 51 = .ok (.goto (-46), 3) := by decide +kernel
theorem d_O_countOf_54 : decode prog_4_method_10_code 54 = .ok (.iload_n 3, 1) := by decide +kernel
theorem d_O_countOf_55 : decode prog_4_method_10_code 55 = .ok (.ireturn, 1) := by decide +kernel
def k_O_countOf_0 (G : oG) (Post : oP) : oK := o_iconst 0 <| o_istore 3 <| o_iconst 0 <| o_istore 4 <| o_jmp G m_O_countOf Post 5 [0, 1, 2, 3, 4]
theorem s_O_countOf_0 {G : oG} {Post : oP} : oS G m_O_countOf Post 0 (k_O_countOf_0 G Post) := by
  unfold k_O_countOf_0
  refine so_iconst d_O_countOf_0 rfl ?_
  refine so_istore_n d_O_countOf_1 rfl (by decide) ?_
  refine so_iconst d_O_countOf_2 rfl ?_
  refine so_istore d_O_countOf_3 (by decide) ?_
  exact so_jmp
def k_O_countOf_5 (G : oG) (Post : oP) : oK := o_iload 4 <| o_iconst 8 <| o_icmpge (o_iload 3 <| o_iret Post) (o_aload 0 <| o_getf 2 1 <| o_iload 4 <| o_iald G <| o_ifle (o_iinc 4 1 <| o_jmp G m_O_countOf Post 5 [0, 1, 2, 3, 4]) (o_aload 0 <| o_getf 2 2 <| o_iload 4 <| o_iald G <| o_iload 1 <| o_icmpne (o_iinc 4 1 <| o_jmp G m_O_countOf Post 5 [0, 1, 2, 3, 4]) (o_aload 0 <| o_getf 2 3 <| o_iload 4 <| o_iald G <| o_iload 2 <| o_iand <| o_ifeq (o_iinc 4 1 <| o_jmp G m_O_countOf Post 5 [0, 1, 2, 3, 4]) (o_iinc 3 1 <| o_iinc 4 1 <| o_jmp G m_O_countOf Post 5 [0, 1, 2, 3, 4]))))
theorem s_O_countOf_5 {G : oG} {Post : oP} : oS G m_O_countOf Post 5 (k_O_countOf_5 G Post) := by
  unfold k_O_countOf_5
  refine so_iload d_O_countOf_5 ?_
  refine so_bipush d_O_countOf_7 rfl ?_
  refine so_icmpge d_O_countOf_9 (tgt := 54) (by decide) ?_ ?_
  · refine so_iload_n d_O_countOf_54 rfl ?_
    exact so_iret d_O_countOf_55 rfl
  · refine so_aload_n d_O_countOf_12 rfl ?_
    refine so_getf cl_2 (k := 1) (by decide) w_133 d_O_countOf_13 ?_
    refine so_iload d_O_countOf_16 ?_
    refine so_iald d_O_countOf_18 ?_
    refine so_ifle d_O_countOf_19 (tgt := 48) (by decide) ?_ ?_
    · refine so_iinc d_O_countOf_48 rfl (by decide) ?_
      refine so_goto d_O_countOf_51 (tgt := 5) (by decide) ?_
      exact so_jmp
    · refine so_aload_n d_O_countOf_22 rfl ?_
      refine so_getf cl_2 (k := 2) (by decide) w_134 d_O_countOf_23 ?_
      refine so_iload d_O_countOf_26 ?_
      refine so_iald d_O_countOf_28 ?_
      refine so_iload_n d_O_countOf_29 rfl ?_
      refine so_icmpne d_O_countOf_30 (tgt := 48) (by decide) ?_ ?_
      · refine so_iinc d_O_countOf_48 rfl (by decide) ?_
        refine so_goto d_O_countOf_51 (tgt := 5) (by decide) ?_
        exact so_jmp
      · refine so_aload_n d_O_countOf_33 rfl ?_
        refine so_getf cl_2 (k := 3) (by decide) w_136 d_O_countOf_34 ?_
        refine so_iload d_O_countOf_37 ?_
        refine so_iald d_O_countOf_39 ?_
        refine so_iload_n d_O_countOf_40 rfl ?_
        refine so_iand d_O_countOf_41 ?_
        refine so_ifeq d_O_countOf_42 (tgt := 48) (by decide) ?_ ?_
        · refine so_iinc d_O_countOf_48 rfl (by decide) ?_
          refine so_goto d_O_countOf_51 (tgt := 5) (by decide) ?_
          exact so_jmp
        · refine so_iinc d_O_countOf_45 rfl (by decide) ?_
          refine so_iinc d_O_countOf_48 rfl (by decide) ?_
          refine so_goto d_O_countOf_51 (tgt := 5) (by decide) ?_
          exact so_jmp
theorem d_O_make_0 : decode prog_4_method_11_code 0 = .ok (.aload_n 0, 1) := by decide +kernel
theorem d_O_make_1 : decode prog_4_method_11_code 1 = .ok (.getfield 18, 3) := by decide +kernel
theorem d_O_make_4 : decode prog_4_method_11_code 4 = .ok (.iload_n 1, 1) := by decide +kernel
theorem d_O_make_5 : decode prog_4_method_11_code 5 = .ok (.iload_n 2, 1) := by decide +kernel
theorem d_O_make_6 : decode prog_4_method_11_code 6 = .ok (.iastore, 1) := by decide +kernel
theorem d_O_make_7 : decode prog_4_method_11_code 7 = .ok (.aload_n 0, 1) := by decide +kernel
theorem d_O_make_8 : decode prog_4_method_11_code 8 = .ok (.getfield 21, 3) := by decide +kernel
theorem d_O_make_11 : decode prog_4_method_11_code 11 = .ok (.iload_n 1, 1) := by decide +kernel
theorem d_O_make_12 : decode prog_4_method_11_code 12 = .ok (.iload_n 3, 1) := by decide +kernel
theorem d_O_make_13 : decode prog_4_method_11_code 13 = .ok (.iastore, 1) := by decide +kernel
theorem d_O_make_14 : decode prog_4_method_11_code 14 = .ok (.aload_n 0, 1) := by decide +kernel
theorem d_O_make_15 : decode prog_4_method_11_code 15 = .ok (.getfield 24, 3) := by decide +kernel
theorem d_O_make_18 : decode prog_4_method_11_code 18 = .ok (.iload_n 1, 1) := by decide +kernel
theorem d_O_make_19 : decode prog_4_method_11_code 19 = .ok (.iconst 0, 1) := by decide +kernel
theorem d_O_make_20 : decode prog_4_method_11_code 20 = .ok (.iastore, 1) := by decide +kernel
theorem d_O_make_21 : decode prog_4_method_11_code 21 = .ok (.return_, 1) := by decide +kernel
def k_O_make_0 (G : oG) (Post : oP) : oK := o_aload 0 <| o_getf 2 2 <| o_iload 1 <| o_iload 2 <| o_iast <| o_aload 0 <| o_getf 2 3 <| o_iload 1 <| o_iload 3 <| o_iast <| o_aload 0 <| o_getf 2 4 <| o_iload 1 <| o_iconst 0 <| o_iast <| o_vret Post
theorem s_O_make_0 {G : oG} {Post : oP} : oS G m_O_make Post 0 (k_O_make_0 G Post) := by
  unfold k_O_make_0
  refine so_aload_n d_O_make_0 rfl ?_
  refine so_getf cl_2 (k := 2) (by decide) w_134 d_O_make_1 ?_
  refine so_iload_n d_O_make_4 rfl ?_
  refine so_iload_n d_O_make_5 rfl ?_
  refine so_iast d_O_make_6 ?_
  refine so_aload_n d_O_make_7 rfl ?_
  refine so_getf cl_2 (k := 3) (by decide) w_136 d_O_make_8 ?_
  refine so_iload_n d_O_make_11 rfl ?_
  refine so_iload_n d_O_make_12 rfl ?_
  refine so_iast d_O_make_13 ?_
  refine so_aload_n d_O_make_14 rfl ?_
  refine so_getf cl_2 (k := 4) (by decide) w_137 d_O_make_15 ?_
  refine so_iload_n d_O_make_18 rfl ?_
  refine so_iconst d_O_make_19 rfl ?_
  refine so_iast d_O_make_20 ?_
  exact so_vret d_O_make_21 rfl
theorem d_O_attach_0 : decode prog_4_method_12_code 0 = .ok (.aload_n 0, 1) := by decide +kernel
theorem d_O_attach_1 : decode prog_4_method_12_code 1 = .ok (.getfield 9, 3) := by decide +kernel
theorem d_O_attach_4 : decode prog_4_method_12_code 4 = .ok (.iload_n 1, 1) := by decide +kernel
theorem d_O_attach_5 : decode prog_4_method_12_code 5 = .ok (.iconst 5, 1) := by decide +kernel
theorem d_O_attach_6 : decode prog_4_method_12_code 6 = .ok (.imul, 1) := by decide +kernel
theorem d_O_attach_7 : decode prog_4_method_12_code 7 = .ok (.iload_n 2, 1) := by decide +kernel
theorem d_O_attach_8 : decode prog_4_method_12_code 8 = .ok (.iadd, 1) := by decide +kernel
theorem d_O_attach_9 : decode prog_4_method_12_code 9 = .ok (.iload_n 3, 1) := by decide +kernel
theorem d_O_attach_10 : decode prog_4_method_12_code 10 = .ok (.iastore, 1) := by decide +kernel
theorem d_O_attach_11 : decode prog_4_method_12_code 11 = .ok (.aload_n 0, 1) := by decide +kernel
theorem d_O_attach_12 : decode prog_4_method_12_code 12 = .ok (.getfield 15, 3) := by decide +kernel
theorem d_O_attach_15 : decode prog_4_method_12_code 15 = .ok (.iload_n 3, 1) := by decide +kernel
theorem d_O_attach_16 : decode prog_4_method_12_code 16 = .ok (.dup2, 1) := by decide +kernel
theorem d_O_attach_17 : decode prog_4_method_12_code 17 = .ok (.iaload, 1) := by decide +kernel
theorem d_O_attach_18 : decode prog_4_method_12_code 18 = .ok (.iconst 1, 1) := by decide +kernel
theorem d_O_attach_19 : decode prog_4_method_12_code 19 = .ok (.iadd, 1) := by decide +kernel
theorem d_O_attach_20 : decode prog_4_method_12_code 20 = .ok (.iastore, 1) := by decide +kernel
theorem d_O_attach_21 : decode prog_4_method_12_code 21 = .ok (.return_, 1) := by decide +kernel
def k_O_attach_0 (G : oG) (Post : oP) : oK := o_aload 0 <| o_getf 2 0 <| o_iload 1 <| o_iconst 5 <| o_imul <| o_iload 2 <| o_iadd <| o_iload 3 <| o_iast <| o_aload 0 <| o_getf 2 1 <| o_iload 3 <| o_dup2 <| o_iald G <| o_iconst 1 <| o_iadd <| o_iast <| o_vret Post
theorem s_O_attach_0 {G : oG} {Post : oP} : oS G m_O_attach Post 0 (k_O_attach_0 G Post) := by
  unfold k_O_attach_0
  refine so_aload_n d_O_attach_0 rfl ?_
  refine so_getf cl_2 (k := 0) (by decide) w_132 d_O_attach_1 ?_
  refine so_iload_n d_O_attach_4 rfl ?_
  refine so_iconst d_O_attach_5 rfl ?_
  refine so_imul d_O_attach_6 ?_
  refine so_iload_n d_O_attach_7 rfl ?_
  refine so_iadd d_O_attach_8 ?_
  refine so_iload_n d_O_attach_9 rfl ?_
  refine so_iast d_O_attach_10 ?_
  refine so_aload_n d_O_attach_11 rfl ?_
  refine so_getf cl_2 (k := 1) (by decide) w_133 d_O_attach_12 ?_
  refine so_iload_n d_O_attach_15 rfl ?_
  refine so_dup2 d_O_attach_16 ?_
  refine so_iald d_O_attach_17 ?_
  refine so_iconst d_O_attach_18 rfl ?_
  refine so_iadd d_O_attach_19 ?_
  refine so_iast d_O_attach_20 ?_
  exact so_vret d_O_attach_21 rfl
theorem d_O_at_0 : decode prog_4_method_2_code 0 = .ok (.iload_n 2, 1) := by decide +kernel
theorem d_O_at_1 : decode prog_4_method_2_code 1 = .ok (.iconst 5, 1) := by decide +kernel
theorem d_O_at_2 : decode prog_4_method_2_code 2 = .ok (.invokestatic 33, 3) := by decide +kernel
theorem d_O_at_5 : decode prog_4_method_2_code 5 = .ok (.ifCond .eq 16, 3) := by decide +kernel
theorem d_O_at_8 : decode prog_4_method_2_code 8 = .ok (.aload_n 0, 1) := by decide +kernel
theorem d_O_at_9 : decode prog_4_method_2_code 9 = .ok (.getfield 9, 3) := by decide +kernel
theorem d_O_at_12 : decode prog_4_method_2_code 12 = .ok (.iload_n 1, 1) := by decide +kernel
theorem d_O_at_13 : decode prog_4_method_2_code 13 = .ok (.iconst 5, 1) := by decide +kernel
theorem d_O_at_14 : decode prog_4_method_2_code 14 = .ok (.imul, 1) := by decide +kernel
theorem d_O_at_15 : decode prog_4_method_2_code 15 = .ok (.iload_n 2, 1) := by decide +kernel
theorem d_O_at_16 : decode prog_4_method_2_code 16 = .ok (.iadd, 1) := by decide +kernel
theorem d_O_at_17 : decode prog_4_method_2_code 17 = .ok (.iaload, 1) := by decide +kernel
theorem d_O_at_18 : decode prog_4_method_2_code 18 = .ok (.goto 4, 3) := by decide +kernel
theorem d_O_at_21 : decode prog_4_method_2_code 21 = .ok (.iconst (-1), 1) := by decide +kernel
theorem d_O_at_22 : decode prog_4_method_2_code 22 = .ok (.ireturn, 1) := by decide +kernel
def k_O_at_0 (G : oG) (Post : oP) : oK := o_iload 2 <| o_iconst 5 <| o_callS G m_T_isWithin 2 <| o_jmp G m_O_at Post 5 [0, 1, 2]
theorem s_O_at_0 {G : oG} {Post : oP} : oS G m_O_at Post 0 (k_O_at_0 G Post) := by
  unfold k_O_at_0
  refine so_iload_n d_O_at_0 rfl ?_
  refine so_iconst d_O_at_1 rfl ?_
  refine so_callSN f_T_isWithin w_232 w_349 (by decide) (by decide) d_O_at_2 ?_
  exact so_jmp
def k_O_at_5 (G : oG) (Post : oP) : oK := o_ifeq (o_iconst (-1) <| o_iret Post) (o_aload 0 <| o_getf 2 0 <| o_iload 1 <| o_iconst 5 <| o_imul <| o_iload 2 <| o_iadd <| o_iald G <| o_iret Post)
theorem s_O_at_5 {G : oG} {Post : oP} : oS G m_O_at Post 5 (k_O_at_5 G Post) := by
  unfold k_O_at_5
  refine so_ifeq d_O_at_5 (tgt := 21) (by decide) ?_ ?_
  · refine so_iconst d_O_at_21 rfl ?_
    exact so_iret d_O_at_22 rfl
  · refine so_aload_n d_O_at_8 rfl ?_
    refine so_getf cl_2 (k := 0) (by decide) w_132 d_O_at_9 ?_
    refine so_iload_n d_O_at_12 rfl ?_
    refine so_iconst d_O_at_13 rfl ?_
    refine so_imul d_O_at_14 ?_
    refine so_iload_n d_O_at_15 rfl ?_
    refine so_iadd d_O_at_16 ?_
    refine so_iald d_O_at_17 ?_
    refine so_goto d_O_at_18 (tgt := 22) (by decide) ?_
    exact so_iret d_O_at_22 rfl
theorem d_O_detach_0 : decode prog_4_method_13_code 0 = .ok (.aload_n 0, 1) := by decide +kernel
theorem d_O_detach_1 : decode prog_4_method_13_code 1 = .ok (.getfield 15, 3) := by decide +kernel
theorem d_O_detach_4 : decode prog_4_method_13_code 4 = .ok (.aload_n 0, 1) := by decide +kernel
theorem d_O_detach_5 : decode prog_4_method_13_code 5 = .ok (.getfield 9, 3) := by decide +kernel
theorem d_O_detach_8 : decode prog_4_method_13_code 8 = .ok (.iload_n 1, 1) := by decide +kernel
theorem d_O_detach_9 : decode prog_4_method_13_code 9 = .ok (.iconst 5, 1) := by decide +kernel
theorem d_O_detach_10 : decode prog_4_method_13_code 10 = .ok (.imul, 1) := by decide +kernel
theorem d_O_detach_11 : decode prog_4_method_13_code 11 = .ok (.iload_n 2, 1) := by decide +kernel
theorem d_O_detach_12 : decode prog_4_method_13_code 12 = .ok (.iadd, 1) := by decide +kernel
theorem d_O_detach_13 : decode prog_4_method_13_code 13 = .ok (.iaload, 1) := by decide +kernel
theorem d_O_detach_14 : decode prog_4_method_13_code 14 = .ok (.dup2, 1) := by decide +kernel
theorem d_O_detach_15 : decode prog_4_method_13_code 15 = .ok (.iaload, 1) := by decide +kernel
theorem d_O_detach_16 : decode prog_4_method_13_code 16 = .ok (.iconst 1, 1) := by decide +kernel
theorem d_O_detach_17 : decode prog_4_method_13_code 17 = .ok (.isub, 1) := by decide +kernel
theorem d_O_detach_18 : decode prog_4_method_13_code 18 = .ok (.iastore, 1) := by decide +kernel
theorem d_O_detach_19 : decode prog_4_method_13_code 19 = .ok (.aload_n 0, 1) := by decide +kernel
theorem d_O_detach_20 : decode prog_4_method_13_code 20 = .ok (.getfield 9, 3) := by decide +kernel
theorem d_O_detach_23 : decode prog_4_method_13_code 23 = .ok (.iload_n 1, 1) := by decide +kernel
theorem d_O_detach_24 : decode prog_4_method_13_code 24 = .ok (.iconst 5, 1) := by decide +kernel
theorem d_O_detach_25 : decode prog_4_method_13_code 25 = .ok (.imul, 1) := by decide +kernel
theorem d_O_detach_26 : decode prog_4_method_13_code 26 = .ok (.iload_n 2, 1) := by decide +kernel
theorem d_O_detach_27 : decode prog_4_method_13_code 27 = .ok (.iadd, 1) := by decide +kernel
theorem d_O_detach_28 : decode prog_4_method_13_code 28 = .ok (.iconst (-1), 1) := by decide +kernel
theorem d_O_detach_29 : decode prog_4_method_13_code 29 = .ok (.iastore, 1) := by decide +kernel
theorem d_O_detach_30 : decode prog_4_method_13_code 30 = .ok (.return_, 1) := by decide +kernel
def k_O_detach_0 (G : oG) (Post : oP) : oK := o_aload 0 <| o_getf 2 1 <| o_aload 0 <| o_getf 2 0 <| o_iload 1 <| o_iconst 5 <| o_imul <| o_iload 2 <| o_iadd <| o_iald G <| o_dup2 <| o_iald G <| o_iconst 1 <| o_isub <| o_iast <| o_aload 0 <| o_getf 2 0 <| o_iload 1 <| o_iconst 5 <| o_imul <| o_iload 2 <| o_iadd <| o_iconst (-1) <| o_iast <| o_vret Post
theorem s_O_detach_0 {G : oG} {Post : oP} : oS G m_O_detach Post 0 (k_O_detach_0 G Post) := by
  unfold k_O_detach_0
  refine so_aload_n d_O_detach_0 rfl ?_
  refine so_getf cl_2 (k := 1) (by decide) w_133 d_O_detach_1 ?_
  refine so_aload_n d_O_detach_4 rfl ?_
  refine so_getf cl_2 (k := 0) (by decide) w_132 d_O_detach_5 ?_
  refine so_iload_n d_O_detach_8 rfl ?_
  refine so_iconst d_O_detach_9 rfl ?_
  refine so_imul d_O_detach_10 ?_
  refine so_iload_n d_O_detach_11 rfl ?_
  refine so_iadd d_O_detach_12 ?_
  refine so_iald d_O_detach_13 ?_
  refine so_dup2 d_O_detach_14 ?_
  refine so_iald d_O_detach_15 ?_
  refine so_iconst d_O_detach_16 rfl ?_
  refine so_isub d_O_detach_17 ?_
  refine so_iast d_O_detach_18 ?_
  refine so_aload_n d_O_detach_19 rfl ?_
  refine so_getf cl_2 (k := 0) (by decide) w_132 d_O_detach_20 ?_
  refine so_iload_n d_O_detach_23 rfl ?_
  refine so_iconst d_O_detach_24 rfl ?_
  refine so_imul d_O_detach_25 ?_
  refine so_iload_n d_O_detach_26 rfl ?_
  refine so_iadd d_O_detach_27 ?_
  refine so_iconst d_O_detach_28 rfl ?_
  refine so_iast d_O_detach_29 ?_
  exact so_vret d_O_detach_30 rfl
theorem d_O_isFor_0 : decode prog_4_method_3_code 0 = .ok (.iload_n 1, 1) := by decide +kernel
theorem d_O_isFor_1 : decode prog_4_method_3_code 1 = .ok (.iconst (-1), 1) := by decide +kernel
theorem d_O_isFor_2 : decode prog_4_method_3_code 2 = .ok (.if_icmp .eq 18, 3) := by decide +kernel
theorem d_O_isFor_5 : decode prog_4_method_3_code 5 = .ok (.aload_n 0, 1) := by decide +kernel
theorem d_O_isFor_6 : decode prog_4_method_3_code 6 = .ok (.getfield 21, 3) := by decide +kernel
theorem d_O_isFor_9 : decode prog_4_method_3_code 9 = .ok (.iload_n 1, 1) := by decide +kernel
theorem d_O_isFor_10 : decode prog_4_method_3_code 10 = .ok (.iaload, 1) := by decide +kernel
theorem d_O_isFor_11 : decode prog_4_method_3_code 11 = .ok (.iload_n 2, 1) := by decide +kernel
theorem d_O_isFor_12 : decode prog_4_method_3_code 12 = .ok (.iand, 1) := by decide +kernel
theorem d_O_isFor_13 : decode prog_4_method_3_code 13 = .ok (.ifCond .eq 7, 3) := by decide +kernel
theorem d_O_isFor_16 : decode prog_4_method_3_code 16 = .ok (.iconst 1, 1) := by decide +kernel
theorem d_O_isFor_17 : decode prog_4_method_3_code 17 = .ok (.goto 4, 3) := by decide +kernel
theorem d_O_isFor_20 : decode prog_4_method_3_code 20 = .ok (.iconst 0, 1) := by decide +kernel
theorem d_O_isFor_21 : decode prog_4_method_3_code 21 = .ok (.ireturn, 1) := by decide +kernel
def k_O_isFor_0 (G : oG) (Post : oP) : oK := o_iload 1 <| o_iconst (-1) <| o_icmpeq (o_iconst 0 <| o_zret Post) (o_aload 0 <| o_getf 2 3 <| o_iload 1 <| o_iald G <| o_iload 2 <| o_iand <| o_ifeq (o_iconst 0 <| o_zret Post) (o_iconst 1 <| o_zret Post))
theorem s_O_isFor_0 {G : oG} {Post : oP} : oS G m_O_isFor Post 0 (k_O_isFor_0 G Post) := by
  unfold k_O_isFor_0
  refine so_iload_n d_O_isFor_0 rfl ?_
  refine so_iconst d_O_isFor_1 rfl ?_
  refine so_icmpeq d_O_isFor_2 (tgt := 20) (by decide) ?_ ?_
  · refine so_iconst d_O_isFor_20 rfl ?_
    exact so_zret d_O_isFor_21 rfl
  · refine so_aload_n d_O_isFor_5 rfl ?_
    refine so_getf cl_2 (k := 3) (by decide) w_136 d_O_isFor_6 ?_
    refine so_iload_n d_O_isFor_9 rfl ?_
    refine so_iald d_O_isFor_10 ?_
    refine so_iload_n d_O_isFor_11 rfl ?_
    refine so_iand d_O_isFor_12 ?_
    refine so_ifeq d_O_isFor_13 (tgt := 20) (by decide) ?_ ?_
    · refine so_iconst d_O_isFor_20 rfl ?_
      exact so_zret d_O_isFor_21 rfl
    · refine so_iconst d_O_isFor_16 rfl ?_
      refine so_goto d_O_isFor_17 (tgt := 21) (by decide) ?_
      exact so_zret d_O_isFor_21 rfl
theorem d_O_isOfPipe_0 : decode prog_4_method_4_code 0 = .ok (.aload_n 0, 1) := by decide +kernel
theorem d_O_isOfPipe_1 : decode prog_4_method_4_code 1 = .ok (.getfield 18, 3) := by decide +kernel
theorem d_O_isOfPipe_4 : decode prog_4_method_4_code 4 = .ok (.iload_n 1, 1) := by decide +kernel
theorem d_O_isOfPipe_5 : decode prog_4_method_4_code 5 = .ok (.iaload, 1) := by decide +kernel
theorem d_O_isOfPipe_6 : decode prog_4_method_4_code 6 = .ok (.bipush 6, 2) := by decide +kernel
theorem d_O_isOfPipe_8 : decode prog_4_method_4_code 8 = .ok (.if_icmp .lt 7, 3) := by decide +kernel
theorem d_O_isOfPipe_11 : decode prog_4_method_4_code 11 = .ok (.iconst 1, 1) := by decide +kernel
theorem d_O_isOfPipe_12 : decode prog_4_method_4_code 12 = .ok (.goto 4, 3) := by decide +kernel
theorem d_O_isOfPipe_15 : decode prog_4_method_4_code 15 = .ok (.iconst 0, 1) := by decide +kernel
theorem d_O_isOfPipe_16 : decode prog_4_method_4_code 16 = .ok (.ireturn, 1) := by decide +kernel
def k_O_isOfPipe_0 (G : oG) (Post : oP) : oK := o_aload 0 <| o_getf 2 2 <| o_iload 1 <| o_iald G <| o_iconst 6 <| o_icmplt (o_iconst 0 <| o_zret Post) (o_iconst 1 <| o_zret Post)
theorem s_O_isOfPipe_0 {G : oG} {Post : oP} : oS G m_O_isOfPipe Post 0 (k_O_isOfPipe_0 G Post) := by
  unfold k_O_isOfPipe_0
  refine so_aload_n d_O_isOfPipe_0 rfl ?_
  refine so_getf cl_2 (k := 2) (by decide) w_134 d_O_isOfPipe_1 ?_
  refine so_iload_n d_O_isOfPipe_4 rfl ?_
  refine so_iald d_O_isOfPipe_5 ?_
  refine so_bipush d_O_isOfPipe_6 rfl ?_
  refine so_icmplt d_O_isOfPipe_8 (tgt := 15) (by decide) ?_ ?_
  · refine so_iconst d_O_isOfPipe_15 rfl ?_
    exact so_zret d_O_isOfPipe_16 rfl
  · refine so_iconst d_O_isOfPipe_11 rfl ?_
    refine so_goto d_O_isOfPipe_12 (tgt := 16) (by decide) ?_
    exact so_zret d_O_isOfPipe_16 rfl
theorem d_O_pipeOf_0 : decode prog_4_method_5_code 0 = .ok (.aload_n 0, 1) := by decide +kernel
theorem d_O_pipeOf_1 : decode prog_4_method_5_code 1 = .ok (.getfield 18, 3) := by decide +kernel
theorem d_O_pipeOf_4 : decode prog_4_method_5_code 4 = .ok (.iload_n 1, 1) := by decide +kernel
theorem d_O_pipeOf_5 : decode prog_4_method_5_code 5 = .ok (.iaload, 1) := by decide +kernel
theorem d_O_pipeOf_6 : decode prog_4_method_5_code 6 = .ok (.bipush 6, 2) := by decide +kernel
theorem d_O_pipeOf_8 : decode prog_4_method_5_code 8 = .ok (.isub, 1) := by decide +kernel
theorem d_O_pipeOf_9 : decode prog_4_method_5_code 9 = .ok (.ireturn, 1) := by decide +kernel
def k_O_pipeOf_0 (G : oG) (Post : oP) : oK := o_aload 0 <| o_getf 2 2 <| o_iload 1 <| o_iald G <| o_iconst 6 <| o_isub <| o_iret Post
theorem s_O_pipeOf_0 {G : oG} {Post : oP} : oS G m_O_pipeOf Post 0 (k_O_pipeOf_0 G Post) := by
  unfold k_O_pipeOf_0
  refine so_aload_n d_O_pipeOf_0 rfl ?_
  refine so_getf cl_2 (k := 2) (by decide) w_134 d_O_pipeOf_1 ?_
  refine so_iload_n d_O_pipeOf_4 rfl ?_
  refine so_iald d_O_pipeOf_5 ?_
  refine so_bipush d_O_pipeOf_6 rfl ?_
  refine so_isub d_O_pipeOf_8 ?_
  exact so_iret d_O_pipeOf_9 rfl
theorem d_O_there_0 : decode prog_4_method_9_code 0 = .ok (.iconst 0, 1) := by decide +kernel
theorem d_O_there_1 : decode prog_4_method_9_code 1 = .ok (.istore_n 1, 1) := by decide +kernel
theorem d_O_there_2 : decode prog_4_method_9_code 2 = .ok (.iconst 0, 1) := by decide +kernel
theorem d_O_there_3 : decode prog_4_method_9_code 3 = .ok (.istore_n 2, 1) := by decide +kernel
theorem d_O_there_4 : decode prog_4_method_9_code 4 = .ok (.iload_n 2, 1) := by decide +kernel
theorem d_O_there_5 : decode prog_4_method_9_code 5 = .ok (.bipush 8, 2) := by decide +kernel
theorem d_O_there_7 : decode prog_4_method_9_code 7 = .ok (.if_icmp .ge 21, 3) := by decide +kernel
theorem d_O_there_10 : decode prog_4_method_9_code 10 = .ok (.aload_n 0, 1) := by decide +kernel
theorem d_O_there_11 : decode prog_4_method_9_code 11 = .ok (.getfield 15, 3) := by decide +kernel
theorem d_O_there_14 : decode prog_4_method_9_code 14 = .ok (.iload_n 2, 1) := by decide +kernel
theorem d_O_there_15 : decode prog_4_method_9_code 15 = .ok (.iaload, 1) := by decide +kernel
theorem d_O_there_16 : decode prog_4_method_9_code 16 = .ok (.ifCond .le 6, 3) := by decide +kernel
theorem d_O_there_19 : decode prog_4_method_9_code 19 = .ok (.iinc 1 1, 3) := by decide +kernel
theorem d_O_there_22 : decode prog_4_method_9_code 22 = .ok (.iinc 2 1, 3) := by decide +kernel
theorem d_O_there_25 : decode prog_4_method_9_code 25 = .ok (.goto (-21), 3) := by decide +kernel
theorem d_O_there_28 : decode prog_4_method_9_code 28 = .ok (.iload_n 1, 1) := by decide +kernel
theorem d_O_there_29 : decode prog_4_method_9_code 29 = .ok (.ireturn, 1) := by decide +kernel
def k_O_there_0 (G : oG) (Post : oP) : oK := o_iconst 0 <| o_istore 1 <| o_iconst 0 <| o_istore 2 <| o_jmp G m_O_there Post 4 [0, 1, 2]
theorem s_O_there_0 {G : oG} {Post : oP} : oS G m_O_there Post 0 (k_O_there_0 G Post) := by
  unfold k_O_there_0
  refine so_iconst d_O_there_0 rfl ?_
  refine so_istore_n d_O_there_1 rfl (by decide) ?_
  refine so_iconst d_O_there_2 rfl ?_
  refine so_istore_n d_O_there_3 rfl (by decide) ?_
  exact so_jmp
def k_O_there_4 (G : oG) (Post : oP) : oK := o_iload 2 <| o_iconst 8 <| o_icmpge (o_iload 1 <| o_iret Post) (o_aload 0 <| o_getf 2 1 <| o_iload 2 <| o_iald G <| o_ifle (o_iinc 2 1 <| o_jmp G m_O_there Post 4 [0, 1, 2]) (o_iinc 1 1 <| o_iinc 2 1 <| o_jmp G m_O_there Post 4 [0, 1, 2]))
theorem s_O_there_4 {G : oG} {Post : oP} : oS G m_O_there Post 4 (k_O_there_4 G Post) := by
  unfold k_O_there_4
  refine so_iload_n d_O_there_4 rfl ?_
  refine so_bipush d_O_there_5 rfl ?_
  refine so_icmpge d_O_there_7 (tgt := 28) (by decide) ?_ ?_
  · refine so_iload_n d_O_there_28 rfl ?_
    exact so_iret d_O_there_29 rfl
  · refine so_aload_n d_O_there_10 rfl ?_
    refine so_getf cl_2 (k := 1) (by decide) w_133 d_O_there_11 ?_
    refine so_iload_n d_O_there_14 rfl ?_
    refine so_iald d_O_there_15 ?_
    refine so_ifle d_O_there_16 (tgt := 22) (by decide) ?_ ?_
    · refine so_iinc d_O_there_22 rfl (by decide) ?_
      refine so_goto d_O_there_25 (tgt := 4) (by decide) ?_
      exact so_jmp
    · refine so_iinc d_O_there_19 rfl (by decide) ?_
      refine so_iinc d_O_there_22 rfl (by decide) ?_
      refine so_goto d_O_there_25 (tgt := 4) (by decide) ?_
      exact so_jmp
theorem d_O_descriptorsOf_0 : decode prog_4_method_7_code 0 = .ok (.iconst 0, 1) := by decide +kernel
theorem d_O_descriptorsOf_1 : decode prog_4_method_7_code 1 = .ok (.istore_n 2, 1) := by decide +kernel
theorem d_O_descriptorsOf_2 : decode prog_4_method_7_code 2 = .ok (.iconst 0, 1) := by decide +kernel
theorem d_O_descriptorsOf_3 : decode prog_4_method_7_code 3 = .ok (.istore_n 3, 1) := by decide +kernel
theorem d_O_descriptorsOf_4 : decode prog_4_method_7_code 4 = .ok (.iload_n 3, 1) := by decide +kernel
theorem d_O_descriptorsOf_5 : decode prog_4_method_7_code 5 = .ok (.iconst 5, 1) := by decide +kernel
theorem d_O_descriptorsOf_6 : decode prog_4_method_7_code 6 = .ok (.if_icmp .ge 26, 3) := by decide +kernel
theorem d_O_descriptorsOf_9 : decode prog_4_method_7_code 9 = .ok (.aload_n 0, 1) := by decide +kernel
theorem d_O_descriptorsOf_10 : decode prog_4_method_7_code 10 = .ok (.getfield 9, 3) := by decide +kernel
theorem d_O_descriptorsOf_13 : decode prog_4_method_7_code 13 = .ok (.iload_n 1, 1) := by decide +kernel
theorem d_O_descriptorsOf_14 : decode prog_4_method_7_code 14 = .ok (.iconst 5, 1) := by decide +kernel
theorem d_O_descriptorsOf_15 : decode prog_4_method_7_code 15 = .ok (.imul, 1) := by decide +kernel
theorem d_O_descriptorsOf_16 : decode prog_4_method_7_code 16 = .ok (.iload_n 3, 1) := by decide +kernel
theorem d_O_descriptorsOf_17 : decode prog_4_method_7_code 17 = .ok (.iadd, 1) := by decide +kernel
theorem d_O_descriptorsOf_18 : decode prog_4_method_7_code 18 = .ok (.iaload, 1) := by decide +kernel
theorem d_O_descriptorsOf_19 : decode prog_4_method_7_code 19 = .ok (.iconst (-1), 1) := by decide +kernel
theorem d_O_descriptorsOf_20 : decode prog_4_method_7_code 20 = .ok (.if_icmp .eq 6, 3) := by decide +kernel
theorem d_O_descriptorsOf_23 : decode prog_4_method_7_code 23 = .ok (.iinc 2 1, 3) := by decide +kernel
theorem d_O_descriptorsOf_26 : decode prog_4_method_7_code 26 = .ok (.iinc 3 1, 3) := by decide +kernel
theorem d_O_descriptorsOf_29 : decode prog_4_method_7_code 29 = .ok (.goto (-25), 3) := by decide +kernel
theorem d_O_descriptorsOf_32 : decode prog_4_method_7_code 32 = .ok (.iload_n 2, 1) := by decide +kernel
theorem d_O_descriptorsOf_33 : decode prog_4_method_7_code 33 = .ok (.ireturn, 1) := by decide +kernel
def k_O_descriptorsOf_0 (G : oG) (Post : oP) : oK := o_iconst 0 <| o_istore 2 <| o_iconst 0 <| o_istore 3 <| o_jmp G m_O_descriptorsOf Post 4 [0, 1, 2, 3]
theorem s_O_descriptorsOf_0 {G : oG} {Post : oP} : oS G m_O_descriptorsOf Post 0 (k_O_descriptorsOf_0 G Post) := by
  unfold k_O_descriptorsOf_0
  refine so_iconst d_O_descriptorsOf_0 rfl ?_
  refine so_istore_n d_O_descriptorsOf_1 rfl (by decide) ?_
  refine so_iconst d_O_descriptorsOf_2 rfl ?_
  refine so_istore_n d_O_descriptorsOf_3 rfl (by decide) ?_
  exact so_jmp
def k_O_descriptorsOf_4 (G : oG) (Post : oP) : oK := o_iload 3 <| o_iconst 5 <| o_icmpge (o_iload 2 <| o_iret Post) (o_aload 0 <| o_getf 2 0 <| o_iload 1 <| o_iconst 5 <| o_imul <| o_iload 3 <| o_iadd <| o_iald G <| o_iconst (-1) <| o_icmpeq (o_iinc 3 1 <| o_jmp G m_O_descriptorsOf Post 4 [0, 1, 2, 3]) (o_iinc 2 1 <| o_iinc 3 1 <| o_jmp G m_O_descriptorsOf Post 4 [0, 1, 2, 3]))
theorem s_O_descriptorsOf_4 {G : oG} {Post : oP} : oS G m_O_descriptorsOf Post 4 (k_O_descriptorsOf_4 G Post) := by
  unfold k_O_descriptorsOf_4
  refine so_iload_n d_O_descriptorsOf_4 rfl ?_
  refine so_iconst d_O_descriptorsOf_5 rfl ?_
  refine so_icmpge d_O_descriptorsOf_6 (tgt := 32) (by decide) ?_ ?_
  · refine so_iload_n d_O_descriptorsOf_32 rfl ?_
    exact so_iret d_O_descriptorsOf_33 rfl
  · refine so_aload_n d_O_descriptorsOf_9 rfl ?_
    refine so_getf cl_2 (k := 0) (by decide) w_132 d_O_descriptorsOf_10 ?_
    refine so_iload_n d_O_descriptorsOf_13 rfl ?_
    refine so_iconst d_O_descriptorsOf_14 rfl ?_
    refine so_imul d_O_descriptorsOf_15 ?_
    refine so_iload_n d_O_descriptorsOf_16 rfl ?_
    refine so_iadd d_O_descriptorsOf_17 ?_
    refine so_iald d_O_descriptorsOf_18 ?_
    refine so_iconst d_O_descriptorsOf_19 rfl ?_
    refine so_icmpeq d_O_descriptorsOf_20 (tgt := 26) (by decide) ?_ ?_
    · refine so_iinc d_O_descriptorsOf_26 rfl (by decide) ?_
      refine so_goto d_O_descriptorsOf_29 (tgt := 4) (by decide) ?_
      exact so_jmp
    · refine so_iinc d_O_descriptorsOf_23 rfl (by decide) ?_
      refine so_iinc d_O_descriptorsOf_26 rfl (by decide) ?_
      refine so_goto d_O_descriptorsOf_29 (tgt := 4) (by decide) ?_
      exact so_jmp
