/-! code in blocks, by program -/
theorem d_A_fill_0 : decode prog_11_method_103_code 0 = .ok (.iconst 0, 1) := by decide +kernel
theorem d_A_fill_1 : decode prog_11_method_103_code 1 = .ok (.istore_n 2, 1) := by decide +kernel
theorem d_A_fill_2 : decode prog_11_method_103_code 2 = .ok (.aload_n 0, 1) := by decide +kernel
theorem d_A_fill_3 : decode prog_11_method_103_code 3 = .ok (.arraylength, 1) := by decide +kernel
theorem d_A_fill_4 : decode prog_11_method_103_code 4 = .ok (.istore_n 3, 1) := by decide +kernel
theorem d_A_fill_5 : decode prog_11_method_103_code 5 = .ok (.iload_n 2, 1) := by decide +kernel
theorem d_A_fill_6 : decode prog_11_method_103_code 6 = .ok (.iload_n 3, 1) := by decide +kernel
theorem d_A_fill_7 : decode prog_11_method_103_code 7 = .ok (.if_icmp .ge 13, 3) := by decide +kernel
theorem d_A_fill_10 : decode prog_11_method_103_code 10 = .ok (.aload_n 0, 1) := by decide +kernel
theorem d_A_fill_11 : decode prog_11_method_103_code 11 = .ok (.iload_n 2, 1) := by decide +kernel
theorem d_A_fill_12 : decode prog_11_method_103_code 12 = .ok (.iload_n 1, 1) := by decide +kernel
theorem d_A_fill_13 : decode prog_11_method_103_code 13 = .ok (.iastore, 1) := by decide +kernel
theorem d_A_fill_14 : decode prog_11_method_103_code 14 = .ok (.iinc 2 1, 3) := by decide +kernel
theorem d_A_fill_17 : decode prog_11_method_103_code 17 = .ok (.goto (-12), 3) := by decide +kernel
theorem d_A_fill_20 : decode prog_11_method_103_code 20 = .ok (.return_, 1) := by decide +kernel
def k_A_fill_0 (G : oG) (Post : oP) : oK := o_iconst 0 <| o_istore 2 <| o_aload 0 <| o_alen G <| o_istore 3 <| o_jmp G m_A_fill Post 5 [0, 1, 2, 3]
theorem s_A_fill_0 {G : oG} {Post : oP} : oS G m_A_fill Post 0 (k_A_fill_0 G Post) := by
  unfold k_A_fill_0
  refine so_iconst d_A_fill_0 rfl ?_
  refine so_istore_n d_A_fill_1 rfl (by decide) ?_
  refine so_aload_n d_A_fill_2 rfl ?_
  refine so_alen d_A_fill_3 ?_
  refine so_istore_n d_A_fill_4 rfl (by decide) ?_
  exact so_jmp
def k_A_fill_5 (G : oG) (Post : oP) : oK := o_iload 2 <| o_iload 3 <| o_icmpge (o_vret Post) (o_aload 0 <| o_iload 2 <| o_iload 1 <| o_iast <| o_iinc 2 1 <| o_jmp G m_A_fill Post 5 [0, 1, 2, 3])
theorem s_A_fill_5 {G : oG} {Post : oP} : oS G m_A_fill Post 5 (k_A_fill_5 G Post) := by
  unfold k_A_fill_5
  refine so_iload_n d_A_fill_5 rfl ?_
  refine so_iload_n d_A_fill_6 rfl ?_
  refine so_icmpge d_A_fill_7 (tgt := 20) (by decide) ?_ ?_
  · exact so_vret d_A_fill_20 rfl
  · refine so_aload_n d_A_fill_10 rfl ?_
    refine so_iload_n d_A_fill_11 rfl ?_
    refine so_iload_n d_A_fill_12 rfl ?_
    refine so_iast d_A_fill_13 ?_
    refine so_iinc d_A_fill_14 rfl (by decide) ?_
    refine so_goto d_A_fill_17 (tgt := 5) (by decide) ?_
    exact so_jmp
