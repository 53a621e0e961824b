/-! code in blocks, by program -/
theorem d_X_init_0 : decode prog_9_method_1_code 0 = .ok (.aload_n 0, 1) := by decide +kernel
theorem d_X_init_1 : decode prog_9_method_1_code 1 = .ok (.invokespecial 1, 3) := by decide +kernel
theorem d_X_init_4 : decode prog_9_method_1_code 4 = .ok (.aload_n 0, 1) := by decide +kernel
theorem d_X_init_5 : decode prog_9_method_1_code 5 = .ok (.sipush 320, 3) := by decide +kernel
theorem d_X_init_8 : decode prog_9_method_1_code 8 = .ok (.newarray .int, 2) := by decide +kernel
theorem d_X_init_10 : decode prog_9_method_1_code 10 = .ok (.putfield 7, 3) := by decide +kernel
theorem d_X_init_13 : decode prog_9_method_1_code 13 = .ok (.aload_n 0, 1) := by decide +kernel
theorem d_X_init_14 : decode prog_9_method_1_code 14 = .ok (.bipush 48, 2) := by decide +kernel
theorem d_X_init_16 : decode prog_9_method_1_code 16 = .ok (.newarray .int, 2) := by decide +kernel
theorem d_X_init_18 : decode prog_9_method_1_code 18 = .ok (.putfield 13, 3) := by decide +kernel
theorem d_X_init_21 : decode prog_9_method_1_code 21 = .ok (.aload_n 0, 1) := by decide +kernel
theorem d_X_init_22 : decode prog_9_method_1_code 22 = .ok (.bipush 48, 2) := by decide +kernel
theorem d_X_init_24 : decode prog_9_method_1_code 24 = .ok (.newarray .int, 2) := by decide +kernel
theorem d_X_init_26 : decode prog_9_method_1_code 26 = .ok (.putfield 16, 3) := by decide +kernel
theorem d_X_init_29 : decode prog_9_method_1_code 29 = .ok (.aload_n 0, 1) := by decide +kernel
theorem d_X_init_30 : decode prog_9_method_1_code 30 = .ok (.bipush 9, 2) := by decide +kernel
theorem d_X_init_32 : decode prog_9_method_1_code 32 = .ok (.newarray .int, 2) := by decide +kernel
theorem d_X_init_34 : decode prog_9_method_1_code 34 = .ok (.putfield 19, 3) := by decide +kernel
theorem d_X_init_37 : decode prog_9_method_1_code 37 = .ok (.aload_n 0, 1) := by decide +kernel
theorem d_X_init_38 : decode prog_9_method_1_code 38 = .ok (.bipush 6, 2) := by decide +kernel
theorem d_X_init_40 : decode prog_9_method_1_code 40 = .ok (.newarray .boolean, 2) := by decide +kernel
theorem d_X_init_42 : decode prog_9_method_1_code 42 = .ok (.putfield 22, 3) := by decide +kernel
theorem d_X_init_45 : decode prog_9_method_1_code 45 = .ok (.aload_n 0, 1) := by decide +kernel
theorem d_X_init_46 : decode prog_9_method_1_code 46 = .ok (.bipush 6, 2) := by decide +kernel
theorem d_X_init_48 : decode prog_9_method_1_code 48 = .ok (.newarray .int, 2) := by decide +kernel
theorem d_X_init_50 : decode prog_9_method_1_code 50 = .ok (.putfield 26, 3) := by decide +kernel
theorem d_X_init_53 : decode prog_9_method_1_code 53 = .ok (.aload_n 0, 1) := by decide +kernel
theorem d_X_init_54 : decode prog_9_method_1_code 54 = .ok (.sipush 144, 3) := by decide +kernel
theorem d_X_init_57 : decode prog_9_method_1_code 57 = .ok (.newarray .int, 2) := by decide +kernel
theorem d_X_init_59 : decode prog_9_method_1_code 59 = .ok (.putfield 29, 3) := by decide +kernel
theorem d_X_init_62 : decode prog_9_method_1_code 62 = .ok (.aload_n 0, 1) := by decide +kernel
theorem d_X_init_63 : decode prog_9_method_1_code 63 = .ok (.bipush 8, 2) := by decide +kernel
theorem d_X_init_65 : decode prog_9_method_1_code 65 = .ok (.newarray .int, 2) := by decide +kernel
theorem d_X_init_67 : decode prog_9_method_1_code 67 = .ok (.putfield 32, 3) := by decide +kernel
theorem d_X_init_70 : decode prog_9_method_1_code 70 = .ok (.aload_n 0, 1) := by decide +kernel
theorem d_X_init_71 : decode prog_9_method_1_code 71 = .ok (.bipush 64, 2) := by decide +kernel
theorem d_X_init_73 : decode prog_9_method_1_code 73 = .ok (.newarray .int, 2) := by decide +kernel
theorem d_X_init_75 : decode prog_9_method_1_code 75 = .ok (.putfield 35, 3) := by decide +kernel
theorem d_X_init_78 : decode prog_9_method_1_code 78 = .ok (.aload_n 0, 1) := by decide +kernel
theorem d_X_init_79 : decode prog_9_method_1_code 79 = .ok (.bipush 8, 2) := by decide +kernel
theorem d_X_init_81 : decode prog_9_method_1_code 81 = .ok (.newarray .int, 2) := by decide +kernel
theorem d_X_init_83 : decode prog_9_method_1_code 83 = .ok (.putfield 38, 3) := by decide +kernel
theorem d_X_init_86 : decode prog_9_method_1_code 86 = .ok (.aload_n 0, 1) := by decide +kernel
theorem d_X_init_87 : decode prog_9_method_1_code 87 = .ok (.bipush 8, 2) := by decide +kernel
theorem d_X_init_89 : decode prog_9_method_1_code 89 = .ok (.newarray .int, 2) := by decide +kernel
theorem d_X_init_91 : decode prog_9_method_1_code 91 = .ok (.putfield 41, 3) := by decide +kernel
theorem d_X_init_94 : decode prog_9_method_1_code 94 = .ok (.aload_n 0, 1) := by decide +kernel
theorem d_X_init_95 : decode prog_9_method_1_code 95 = .ok (.bipush 8, 2) := by decide +kernel
theorem d_X_init_97 : decode prog_9_method_1_code 97 = .ok (.newarray .int, 2) := by decide +kernel
theorem d_X_init_99 : decode prog_9_method_1_code 99 = .ok (.putfield 44, 3) := by decide +kernel
theorem d_X_init_102 : decode prog_9_method_1_code 102 = .ok (.aload_n 0, 1) := by decide +kernel
theorem d_X_init_103 : decode prog_9_method_1_code 103 = .ok (.bipush 8, 2) := by decide +kernel
theorem d_X_init_105 : decode prog_9_method_1_code 105 = .ok (.newarray .int, 2) := by decide +kernel
theorem d_X_init_107 : decode prog_9_method_1_code 107 = .ok (.putfield 47, 3) := by decide +kernel
theorem d_X_init_110 : decode prog_9_method_1_code 110 = .ok (.aload_n 0, 1) := by decide +kernel
theorem d_X_init_111 : decode prog_9_method_1_code 111 = .ok (.bipush 8, 2) := by decide +kernel
theorem d_X_init_113 : decode prog_9_method_1_code 113 = .ok (.newarray .int, 2) := by decide +kernel
theorem d_X_init_115 : decode prog_9_method_1_code 115 = .ok (.putfield 50, 3) := by decide +kernel
theorem d_X_init_118 : decode prog_9_method_1_code 118 = .ok (.aload_n 0, 1) := by decide +kernel
theorem d_X_init_119 : decode prog_9_method_1_code 119 = .ok (.iconst 2, 1) := by decide +kernel
theorem d_X_init_120 : decode prog_9_method_1_code 120 = .ok (.newarray .boolean, 2) := by decide +kernel
theorem d_X_init_122 : decode prog_9_method_1_code 122 = .ok (.putfield 53, 3) := by decide +kernel
theorem d_X_init_125 : decode prog_9_method_1_code 125 = .ok (.aload_n 0, 1) := by decide +kernel
theorem d_X_init_126 : decode prog_9_method_1_code 126 = .ok (.iconst 2, 1) := by decide +kernel
theorem d_X_init_127 : decode prog_9_method_1_code 127 = .ok (.newarray .int, 2) := by decide +kernel
theorem d_X_init_129 : decode prog_9_method_1_code 129 = .ok (.putfield 56, 3) := by decide +kernel
theorem d_X_init_132 : decode prog_9_method_1_code 132 = .ok (.aload_n 0, 1) := by decide +kernel
theorem d_X_init_133 : decode prog_9_method_1_code 133 = .ok (.bipush 16, 2) := by decide +kernel
theorem d_X_init_135 : decode prog_9_method_1_code 135 = .ok (.newarray .int, 2) := by decide +kernel
theorem d_X_init_137 : decode prog_9_method_1_code 137 = .ok (.putfield 59, 3) := by decide +kernel
theorem d_X_init_140 : decode prog_9_method_1_code 140 = .ok (.aload_n 0, 1) := by decide +kernel
theorem d_X_init_141 : decode prog_9_method_1_code 141 = .ok (.bipush 15, 2) := by decide +kernel
theorem d_X_init_143 : decode prog_9_method_1_code 143 = .ok (.newarray .int, 2) := by decide +kernel
theorem d_X_init_145 : decode prog_9_method_1_code 145 = .ok (.putfield 62, 3) := by decide +kernel
theorem d_X_init_148 : decode prog_9_method_1_code 148 = .ok (.aload_n 0, 1) := by decide +kernel
theorem d_X_init_149 : decode prog_9_method_1_code 149 = .ok (.sipush 1024, 3) := by decide +kernel
theorem d_X_init_152 : decode prog_9_method_1_code 152 = .ok (.newarray .int, 2) := by decide +kernel
theorem d_X_init_154 : decode prog_9_method_1_code 154 = .ok (.putfield 65, 3) := by decide +kernel
theorem d_X_init_157 : decode prog_9_method_1_code 157 = .ok (.aload_n 0, 1) := by decide +kernel
theorem d_X_init_158 : decode prog_9_method_1_code 158 = .ok (.sipush 1024, 3) := by decide +kernel
theorem d_X_init_161 : decode prog_9_method_1_code 161 = .ok (.newarray .int, 2) := by decide +kernel
theorem d_X_init_163 : decode prog_9_method_1_code 163 = .ok (.putfield 68, 3) := by decide +kernel
theorem d_X_init_166 : decode prog_9_method_1_code 166 = .ok (.aload_n 0, 1) := by decide +kernel
theorem d_X_init_167 : decode prog_9_method_1_code 167 = .ok (.bipush 16, 2) := by decide +kernel
theorem d_X_init_169 : decode prog_9_method_1_code 169 = .ok (.newarray .int, 2) := by decide +kernel
theorem d_X_init_171 : decode prog_9_method_1_code 171 = .ok (.putfield 71, 3) := by decide +kernel
theorem d_X_init_174 : decode prog_9_method_1_code 174 = .ok (.aload_n 0, 1) := by decide +kernel
theorem d_X_init_175 : decode prog_9_method_1_code 175 = .ok (.iconst 2, 1) := by decide +kernel
theorem d_X_init_176 : decode prog_9_method_1_code 176 = .ok (.newarray .int, 2) := by decide +kernel
theorem d_X_init_178 : decode prog_9_method_1_code 178 = .ok (.putfield 74, 3) := by decide +kernel
theorem d_X_init_181 : decode prog_9_method_1_code 181 = .ok (.return_, 1) := by decide +kernel
def k_X_init_0 (G : oG) (Post : oP) : oK := o_aload 0 <| o_objInit <| o_aload 0 <| o_iconst 320 <| o_newa 0 (.inl (fun _ => 0)) <| o_putfR 7 0 <| o_aload 0 <| o_iconst 48 <| o_newa 0 (.inl (fun _ => 0)) <| o_putfR 7 1 <| o_aload 0 <| o_iconst 48 <| o_newa 0 (.inl (fun _ => 0)) <| o_putfR 7 2 <| o_aload 0 <| o_iconst 9 <| o_newa 0 (.inl (fun _ => 0)) <| o_putfR 7 3 <| o_aload 0 <| o_iconst 6 <| o_newa 2 (.inl (fun _ => 0)) <| o_putfR 7 5 <| o_aload 0 <| o_iconst 6 <| o_newa 0 (.inl (fun _ => 0)) <| o_putfR 7 6 <| o_aload 0 <| o_iconst 144 <| o_newa 0 (.inl (fun _ => 0)) <| o_putfR 7 7 <| o_aload 0 <| o_iconst 8 <| o_newa 0 (.inl (fun _ => 0)) <| o_putfR 7 8 <| o_aload 0 <| o_iconst 64 <| o_newa 0 (.inl (fun _ => 0)) <| o_putfR 7 9 <| o_aload 0 <| o_iconst 8 <| o_newa 0 (.inl (fun _ => 0)) <| o_putfR 7 10 <| o_aload 0 <| o_iconst 8 <| o_newa 0 (.inl (fun _ => 0)) <| o_putfR 7 11 <| o_aload 0 <| o_iconst 8 <| o_newa 0 (.inl (fun _ => 0)) <| o_putfR 7 12 <| o_aload 0 <| o_iconst 8 <| o_newa 0 (.inl (fun _ => 0)) <| o_putfR 7 13 <| o_aload 0 <| o_iconst 8 <| o_newa 0 (.inl (fun _ => 0)) <| o_putfR 7 14 <| o_aload 0 <| o_iconst 2 <| o_newa 2 (.inl (fun _ => 0)) <| o_putfR 7 15 <| o_aload 0 <| o_iconst 2 <| o_newa 0 (.inl (fun _ => 0)) <| o_putfR 7 16 <| o_aload 0 <| o_iconst 16 <| o_newa 0 (.inl (fun _ => 0)) <| o_putfR 7 17 <| o_aload 0 <| o_iconst 15 <| o_newa 0 (.inl (fun _ => 0)) <| o_putfR 7 18 <| o_aload 0 <| o_iconst 1024 <| o_newa 0 (.inl (fun _ => 0)) <| o_putfR 7 24 <| o_aload 0 <| o_iconst 1024 <| o_newa 0 (.inl (fun _ => 0)) <| o_putfR 7 25 <| o_aload 0 <| o_iconst 16 <| o_newa 0 (.inl (fun _ => 0)) <| o_putfR 7 26 <| o_aload 0 <| o_iconst 2 <| o_newa 0 (.inl (fun _ => 0)) <| o_putfR 7 27 <| o_vret Post
theorem s_X_init_0 {G : oG} {Post : oP} : oS G m_X_init Post 0 (k_X_init_0 G Post) := by
  unfold k_X_init_0
  refine so_aload_n d_X_init_0 rfl ?_
  refine so_objInit w_561 w_85 w_objcode (by decide) (by decide) d_X_init_1 ?_
  refine so_aload_n d_X_init_4 rfl ?_
  refine so_sipush d_X_init_5 rfl ?_
  refine so_newa (ty := .int) rfl w_104 (t := 0) rfl (fun _ q => by cases q) (by decide) rfl (fun _ _ => rfl) d_X_init_8 ?_
  refine so_putfRF cl_7 (k := 0) (by decide) (Or.inr ⟨_, rfl⟩) rfl rfl rfl w_562 d_X_init_10 ?_
  refine so_aload_n d_X_init_13 rfl ?_
  refine so_bipush d_X_init_14 rfl ?_
  refine so_newa (ty := .int) rfl w_104 (t := 0) rfl (fun _ q => by cases q) (by decide) rfl (fun _ _ => rfl) d_X_init_16 ?_
  refine so_putfRF cl_7 (k := 1) (by decide) (Or.inr ⟨_, rfl⟩) rfl rfl rfl w_563 d_X_init_18 ?_
  refine so_aload_n d_X_init_21 rfl ?_
  refine so_bipush d_X_init_22 rfl ?_
  refine so_newa (ty := .int) rfl w_104 (t := 0) rfl (fun _ q => by cases q) (by decide) rfl (fun _ _ => rfl) d_X_init_24 ?_
  refine so_putfRF cl_7 (k := 2) (by decide) (Or.inr ⟨_, rfl⟩) rfl rfl rfl w_564 d_X_init_26 ?_
  refine so_aload_n d_X_init_29 rfl ?_
  refine so_bipush d_X_init_30 rfl ?_
  refine so_newa (ty := .int) rfl w_104 (t := 0) rfl (fun _ q => by cases q) (by decide) rfl (fun _ _ => rfl) d_X_init_32 ?_
  refine so_putfRF cl_7 (k := 3) (by decide) (Or.inr ⟨_, rfl⟩) rfl rfl rfl w_565 d_X_init_34 ?_
  refine so_aload_n d_X_init_37 rfl ?_
  refine so_bipush d_X_init_38 rfl ?_
  refine so_newa (ty := .boolean) rfl w_647 (t := 2) rfl (fun _ q => by cases q) (by decide) rfl (fun _ _ => rfl) d_X_init_40 ?_
  refine so_putfRF cl_7 (k := 5) (by decide) (Or.inr ⟨_, rfl⟩) rfl rfl rfl w_567 d_X_init_42 ?_
  refine so_aload_n d_X_init_45 rfl ?_
  refine so_bipush d_X_init_46 rfl ?_
  refine so_newa (ty := .int) rfl w_104 (t := 0) rfl (fun _ q => by cases q) (by decide) rfl (fun _ _ => rfl) d_X_init_48 ?_
  refine so_putfRF cl_7 (k := 6) (by decide) (Or.inr ⟨_, rfl⟩) rfl rfl rfl w_568 d_X_init_50 ?_
  refine so_aload_n d_X_init_53 rfl ?_
  refine so_sipush d_X_init_54 rfl ?_
  refine so_newa (ty := .int) rfl w_104 (t := 0) rfl (fun _ q => by cases q) (by decide) rfl (fun _ _ => rfl) d_X_init_57 ?_
  refine so_putfRF cl_7 (k := 7) (by decide) (Or.inr ⟨_, rfl⟩) rfl rfl rfl w_569 d_X_init_59 ?_
  refine so_aload_n d_X_init_62 rfl ?_
  refine so_bipush d_X_init_63 rfl ?_
  refine so_newa (ty := .int) rfl w_104 (t := 0) rfl (fun _ q => by cases q) (by decide) rfl (fun _ _ => rfl) d_X_init_65 ?_
  refine so_putfRF cl_7 (k := 8) (by decide) (Or.inr ⟨_, rfl⟩) rfl rfl rfl w_570 d_X_init_67 ?_
  refine so_aload_n d_X_init_70 rfl ?_
  refine so_bipush d_X_init_71 rfl ?_
  refine so_newa (ty := .int) rfl w_104 (t := 0) rfl (fun _ q => by cases q) (by decide) rfl (fun _ _ => rfl) d_X_init_73 ?_
  refine so_putfRF cl_7 (k := 9) (by decide) (Or.inr ⟨_, rfl⟩) rfl rfl rfl w_571 d_X_init_75 ?_
  refine so_aload_n d_X_init_78 rfl ?_
  refine so_bipush d_X_init_79 rfl ?_
  refine so_newa (ty := .int) rfl w_104 (t := 0) rfl (fun _ q => by cases q) (by decide) rfl (fun _ _ => rfl) d_X_init_81 ?_
  refine so_putfRF cl_7 (k := 10) (by decide) (Or.inr ⟨_, rfl⟩) rfl rfl rfl w_572 d_X_init_83 ?_
  refine so_aload_n d_X_init_86 rfl ?_
  refine so_bipush d_X_init_87 rfl ?_
  refine so_newa (ty := .int) rfl w_104 (t := 0) rfl (fun _ q => by cases q) (by decide) rfl (fun _ _ => rfl) d_X_init_89 ?_
  refine so_putfRF cl_7 (k := 11) (by decide) (Or.inr ⟨_, rfl⟩) rfl rfl rfl w_573 d_X_init_91 ?_
  refine so_aload_n d_X_init_94 rfl ?_
  refine so_bipush d_X_init_95 rfl ?_
  refine so_newa (ty := .int) rfl w_104 (t := 0) rfl (fun _ q => by cases q) (by decide) rfl (fun _ _ => rfl) d_X_init_97 ?_
  refine so_putfRF cl_7 (k := 12) (by decide) (Or.inr ⟨_, rfl⟩) rfl rfl rfl w_574 d_X_init_99 ?_
  refine so_aload_n d_X_init_102 rfl ?_
  refine so_bipush d_X_init_103 rfl ?_
  refine so_newa (ty := .int) rfl w_104 (t := 0) rfl (fun _ q => by cases q) (by decide) rfl (fun _ _ => rfl) d_X_init_105 ?_
  refine so_putfRF cl_7 (k := 13) (by decide) (Or.inr ⟨_, rfl⟩) rfl rfl rfl w_575 d_X_init_107 ?_
  refine so_aload_n d_X_init_110 rfl ?_
  refine so_bipush d_X_init_111 rfl ?_
  refine so_newa (ty := .int) rfl w_104 (t := 0) rfl (fun _ q => by cases q) (by decide) rfl (fun _ _ => rfl) d_X_init_113 ?_
  refine so_putfRF cl_7 (k := 14) (by decide) (Or.inr ⟨_, rfl⟩) rfl rfl rfl w_576 d_X_init_115 ?_
  refine so_aload_n d_X_init_118 rfl ?_
  refine so_iconst d_X_init_119 rfl ?_
  refine so_newa (ty := .boolean) rfl w_647 (t := 2) rfl (fun _ q => by cases q) (by decide) rfl (fun _ _ => rfl) d_X_init_120 ?_
  refine so_putfRF cl_7 (k := 15) (by decide) (Or.inr ⟨_, rfl⟩) rfl rfl rfl w_577 d_X_init_122 ?_
  refine so_aload_n d_X_init_125 rfl ?_
  refine so_iconst d_X_init_126 rfl ?_
  refine so_newa (ty := .int) rfl w_104 (t := 0) rfl (fun _ q => by cases q) (by decide) rfl (fun _ _ => rfl) d_X_init_127 ?_
  refine so_putfRF cl_7 (k := 16) (by decide) (Or.inr ⟨_, rfl⟩) rfl rfl rfl w_578 d_X_init_129 ?_
  refine so_aload_n d_X_init_132 rfl ?_
  refine so_bipush d_X_init_133 rfl ?_
  refine so_newa (ty := .int) rfl w_104 (t := 0) rfl (fun _ q => by cases q) (by decide) rfl (fun _ _ => rfl) d_X_init_135 ?_
  refine so_putfRF cl_7 (k := 17) (by decide) (Or.inr ⟨_, rfl⟩) rfl rfl rfl w_579 d_X_init_137 ?_
  refine so_aload_n d_X_init_140 rfl ?_
  refine so_bipush d_X_init_141 rfl ?_
  refine so_newa (ty := .int) rfl w_104 (t := 0) rfl (fun _ q => by cases q) (by decide) rfl (fun _ _ => rfl) d_X_init_143 ?_
  refine so_putfRF cl_7 (k := 18) (by decide) (Or.inr ⟨_, rfl⟩) rfl rfl rfl w_580 d_X_init_145 ?_
  refine so_aload_n d_X_init_148 rfl ?_
  refine so_sipush d_X_init_149 rfl ?_
  refine so_newa (ty := .int) rfl w_104 (t := 0) rfl (fun _ q => by cases q) (by decide) rfl (fun _ _ => rfl) d_X_init_152 ?_
  refine so_putfRF cl_7 (k := 24) (by decide) (Or.inr ⟨_, rfl⟩) rfl rfl rfl w_586 d_X_init_154 ?_
  refine so_aload_n d_X_init_157 rfl ?_
  refine so_sipush d_X_init_158 rfl ?_
  refine so_newa (ty := .int) rfl w_104 (t := 0) rfl (fun _ q => by cases q) (by decide) rfl (fun _ _ => rfl) d_X_init_161 ?_
  refine so_putfRF cl_7 (k := 25) (by decide) (Or.inr ⟨_, rfl⟩) rfl rfl rfl w_587 d_X_init_163 ?_
  refine so_aload_n d_X_init_166 rfl ?_
  refine so_bipush d_X_init_167 rfl ?_
  refine so_newa (ty := .int) rfl w_104 (t := 0) rfl (fun _ q => by cases q) (by decide) rfl (fun _ _ => rfl) d_X_init_169 ?_
  refine so_putfRF cl_7 (k := 26) (by decide) (Or.inr ⟨_, rfl⟩) rfl rfl rfl w_588 d_X_init_171 ?_
  refine so_aload_n d_X_init_174 rfl ?_
  refine so_iconst d_X_init_175 rfl ?_
  refine so_newa (ty := .int) rfl w_104 (t := 0) rfl (fun _ q => by cases q) (by decide) rfl (fun _ _ => rfl) d_X_init_176 ?_
  refine so_putfRF cl_7 (k := 27) (by decide) (Or.inr ⟨_, rfl⟩) rfl rfl rfl w_589 d_X_init_178 ?_
  exact so_vret d_X_init_181 rfl
theorem d_X_isProcess_0 : decode prog_9_method_2_code 0 = .ok (.iload_n 0, 1) := by decide +kernel
theorem d_X_isProcess_1 : decode prog_9_method_2_code 1 = .ok (.ifCond .lt 12, 3) := by decide +kernel
theorem d_X_isProcess_4 : decode prog_9_method_2_code 4 = .ok (.iload_n 0, 1) := by decide +kernel
theorem d_X_isProcess_5 : decode prog_9_method_2_code 5 = .ok (.iconst 2, 1) := by decide +kernel
theorem d_X_isProcess_6 : decode prog_9_method_2_code 6 = .ok (.if_icmp .gt 7, 3) := by decide +kernel
theorem d_X_isProcess_9 : decode prog_9_method_2_code 9 = .ok (.iconst 1, 1) := by decide +kernel
theorem d_X_isProcess_10 : decode prog_9_method_2_code 10 = .ok (.goto 4, 3) := by decide +kernel
theorem d_X_isProcess_13 : decode prog_9_method_2_code 13 = .ok (.iconst 0, 1) := by decide +kernel
theorem d_X_isProcess_14 : decode prog_9_method_2_code 14 = .ok (.ireturn, 1) := by decide +kernel
def k_X_isProcess_0 (G : oG) (Post : oP) : oK := o_iload 0 <| o_iflt (o_iconst 0 <| o_zret Post) (o_iload 0 <| o_iconst 2 <| o_icmpgt (o_iconst 0 <| o_zret Post) (o_iconst 1 <| o_zret Post))
theorem s_X_isProcess_0 {G : oG} {Post : oP} : oS G m_X_isProcess Post 0 (k_X_isProcess_0 G Post) := by
  unfold k_X_isProcess_0
  refine so_iload_n d_X_isProcess_0 rfl ?_
  refine so_iflt d_X_isProcess_1 (tgt := 13) (by decide) ?_ ?_
  · refine so_iconst d_X_isProcess_13 rfl ?_
    exact so_zret d_X_isProcess_14 rfl
  · refine so_iload_n d_X_isProcess_4 rfl ?_
    refine so_iconst d_X_isProcess_5 rfl ?_
    refine so_icmpgt d_X_isProcess_6 (tgt := 13) (by decide) ?_ ?_
    · refine so_iconst d_X_isProcess_13 rfl ?_
      exact so_zret d_X_isProcess_14 rfl
    · refine so_iconst d_X_isProcess_9 rfl ?_
      refine so_goto d_X_isProcess_10 (tgt := 14) (by decide) ?_
      exact so_zret d_X_isProcess_14 rfl
theorem d_X_isPage_0 : decode prog_9_method_3_code 0 = .ok (.iload_n 0, 1) := by decide +kernel
theorem d_X_isPage_1 : decode prog_9_method_3_code 1 = .ok (.invokestatic 77, 3) := by decide +kernel
theorem d_X_isPage_4 : decode prog_9_method_3_code 4 = .ok (.ifCond .eq 17, 3) := by decide +kernel
theorem d_X_isPage_7 : decode prog_9_method_3_code 7 = .ok (.iload_n 1, 1) := by decide +kernel
theorem d_X_isPage_8 : decode prog_9_method_3_code 8 = .ok (.ifCond .lt 13, 3) := by decide +kernel
theorem d_X_isPage_11 : decode prog_9_method_3_code 11 = .ok (.iload_n 1, 1) := by decide +kernel
theorem d_X_isPage_12 : decode prog_9_method_3_code 12 = .ok (.bipush 15, 2) := by decide +kernel
theorem d_X_isPage_14 : decode prog_9_method_3_code 14 = .ok (.if_icmp .gt 7, 3) := by decide +kernel
theorem d_X_isPage_17 : decode prog_9_method_3_code 17 = .ok (.iconst 1, 1) := by decide +kernel
theorem d_X_isPage_18 : decode prog_9_method_3_code 18 = .ok (.goto 4, 3) := by decide +kernel
theorem d_X_isPage_21 : decode prog_9_method_3_code 21 = .ok (.iconst 0, 1) := by decide +kernel
theorem d_X_isPage_22 : decode prog_9_method_3_code 22 = .ok (.ireturn, 1) := by decide +kernel
def k_X_isPage_0 (G : oG) (Post : oP) : oK := o_iload 0 <| o_callS G m_X_isProcess 1 <| o_jmp G m_X_isPage Post 4 [1]
theorem s_X_isPage_0 {G : oG} {Post : oP} : oS G m_X_isPage Post 0 (k_X_isPage_0 G Post) := by
  unfold k_X_isPage_0
  refine so_iload_n d_X_isPage_0 rfl ?_
  refine so_callS f_X_isProcess w_656 w_655 (by decide) (by decide) d_X_isPage_1 ?_
  exact so_jmp
def k_X_isPage_4 (G : oG) (Post : oP) : oK := o_ifeq (o_iconst 0 <| o_zret Post) (o_iload 1 <| o_iflt (o_iconst 0 <| o_zret Post) (o_iload 1 <| o_iconst 15 <| o_icmpgt (o_iconst 0 <| o_zret Post) (o_iconst 1 <| o_zret Post)))
theorem s_X_isPage_4 {G : oG} {Post : oP} : oS G m_X_isPage Post 4 (k_X_isPage_4 G Post) := by
  unfold k_X_isPage_4
  refine so_ifeq d_X_isPage_4 (tgt := 21) (by decide) ?_ ?_
  · refine so_iconst d_X_isPage_21 rfl ?_
    exact so_zret d_X_isPage_22 rfl
  · refine so_iload_n d_X_isPage_7 rfl ?_
    refine so_iflt d_X_isPage_8 (tgt := 21) (by decide) ?_ ?_
    · refine so_iconst d_X_isPage_21 rfl ?_
      exact so_zret d_X_isPage_22 rfl
    · refine so_iload_n d_X_isPage_11 rfl ?_
      refine so_bipush d_X_isPage_12 rfl ?_
      refine so_icmpgt d_X_isPage_14 (tgt := 21) (by decide) ?_ ?_
      · refine so_iconst d_X_isPage_21 rfl ?_
        exact so_zret d_X_isPage_22 rfl
      · refine so_iconst d_X_isPage_17 rfl ?_
        refine so_goto d_X_isPage_18 (tgt := 22) (by decide) ?_
        exact so_zret d_X_isPage_22 rfl
theorem d_X_map_0 : decode prog_9_method_4_code 0 = .ok (.iload_n 1, 1) := by decide +kernel
theorem d_X_map_1 : decode prog_9_method_4_code 1 = .ok (.iload_n 2, 1) := by decide +kernel
theorem d_X_map_2 : decode prog_9_method_4_code 2 = .ok (.invokestatic 81, 3) := by decide +kernel
theorem d_X_map_5 : decode prog_9_method_4_code 5 = .ok (.ifCond .eq 25, 3) := by decide +kernel
theorem d_X_map_8 : decode prog_9_method_4_code 8 = .ok (.iload_n 3, 1) := by decide +kernel
theorem d_X_map_9 : decode prog_9_method_4_code 9 = .ok (.ifCond .lt 21, 3) := by decide +kernel
theorem d_X_map_12 : decode prog_9_method_4_code 12 = .ok (.iload_n 3, 1) := by decide +kernel
theorem d_X_map_13 : decode prog_9_method_4_code 13 = .ok (.bipush 19, 2) := by decide +kernel
theorem d_X_map_15 : decode prog_9_method_4_code 15 = .ok (.if_icmp .gt 15, 3) := by decide +kernel
theorem d_X_map_18 : decode prog_9_method_4_code 18 = .ok (.iload 4, 2) := by decide +kernel
theorem d_X_map_20 : decode prog_9_method_4_code 20 = .ok (.ifCond .lt 10, 3) := by decide +kernel
theorem d_X_map_23 : decode prog_9_method_4_code 23 = .ok (.iload 4, 2) := by decide +kernel
theorem d_X_map_25 : decode prog_9_method_4_code 25 = .ok (.bipush 7, 2) := by decide +kernel
theorem d_X_map_27 : decode prog_9_method_4_code 27 = .ok (.if_icmp .le 5, 3) := by decide +kernel
theorem d_X_map_30 : decode prog_9_method_4_code 30 = .ok (.iconst 0, 1) := by decide +kernel
theorem d_X_map_31 : decode prog_9_method_4_code 31 = .ok (.ireturn, 1) := by decide +kernel
theorem d_X_map_32 : decode prog_9_method_4_code 32 = .ok (.aload_n 0, 1) := by decide +kernel
theorem d_X_map_33 : decode prog_9_method_4_code 33 = .ok (.getfield 13, 3) := by decide +kernel
theorem d_X_map_36 : decode prog_9_method_4_code 36 = .ok (.bipush 16, 2) := by decide +kernel
theorem d_X_map_38 : decode prog_9_method_4_code 38 = .ok (.iload_n 1, 1) := by decide +kernel
theorem d_X_map_39 : decode prog_9_method_4_code 39 = .ok (.imul, 1) := by decide +kernel
theorem d_X_map_40 : decode prog_9_method_4_code 40 = .ok (.iload_n 2, 1) := by decide +kernel
theorem d_X_map_41 : decode prog_9_method_4_code 41 = .ok (.iadd, 1) := by decide +kernel
theorem d_X_map_42 : decode prog_9_method_4_code 42 = .ok (.iload_n 3, 1) := by decide +kernel
theorem d_X_map_43 : decode prog_9_method_4_code 43 = .ok (.iconst 1, 1) := by decide +kernel
theorem d_X_map_44 : decode prog_9_method_4_code 44 = .ok (.iadd, 1) := by decide +kernel
theorem d_X_map_45 : decode prog_9_method_4_code 45 = .ok (.iastore, 1) := by decide +kernel
theorem d_X_map_46 : decode prog_9_method_4_code 46 = .ok (.aload_n 0, 1) := by decide +kernel
theorem d_X_map_47 : decode prog_9_method_4_code 47 = .ok (.getfield 16, 3) := by decide +kernel
theorem d_X_map_50 : decode prog_9_method_4_code 50 = .ok (.bipush 16, 2) := by decide +kernel
theorem d_X_map_52 : decode prog_9_method_4_code 52 = .ok (.iload_n 1, 1) := by decide +kernel
theorem d_X_map_53 : decode prog_9_method_4_code 53 = .ok (.imul, 1) := by decide +kernel
theorem d_X_map_54 : decode prog_9_method_4_code 54 = .ok (.iload_n 2, 1) := by decide +kernel
theorem d_X_map_55 : decode prog_9_method_4_code 55 = .ok (.iadd, 1) := by decide +kernel
theorem d_X_map_56 : decode prog_9_method_4_code 56 = .ok (.iload 4, 2) := by decide +kernel
theorem d_X_map_58 : decode prog_9_method_4_code 58 = .ok (.iastore, 1) := by decide +kernel
theorem d_X_map_59 : decode prog_9_method_4_code 59 = .ok (.iconst 1, 1) := by decide +kernel
theorem d_X_map_60 : decode prog_9_method_4_code 60 = .ok (.ireturn, 1) := by decide +kernel
def k_X_map_0 (G : oG) (Post : oP) : oK := o_iload 1 <| o_iload 2 <| o_callS G m_X_isPage 2 <| o_jmp G m_X_map Post 5 [0, 1, 2, 3, 4]
theorem s_X_map_0 {G : oG} {Post : oP} : oS G m_X_map Post 0 (k_X_map_0 G Post) := by
  unfold k_X_map_0
  refine so_iload_n d_X_map_0 rfl ?_
  refine so_iload_n d_X_map_1 rfl ?_
  refine so_callS f_X_isPage w_653 w_652 (by decide) (by decide) d_X_map_2 ?_
  exact so_jmp
def k_X_map_5 (G : oG) (Post : oP) : oK := o_ifeq (o_iconst 0 <| o_zret Post) (o_iload 3 <| o_iflt (o_iconst 0 <| o_zret Post) (o_iload 3 <| o_iconst 19 <| o_icmpgt (o_iconst 0 <| o_zret Post) (o_iload 4 <| o_iflt (o_iconst 0 <| o_zret Post) (o_iload 4 <| o_iconst 7 <| o_icmple (o_jmp G m_X_map Post 32 [0, 1, 2, 3, 4]) (o_iconst 0 <| o_zret Post)))))
theorem s_X_map_5 {G : oG} {Post : oP} : oS G m_X_map Post 5 (k_X_map_5 G Post) := by
  unfold k_X_map_5
  refine so_ifeq d_X_map_5 (tgt := 30) (by decide) ?_ ?_
  · refine so_iconst d_X_map_30 rfl ?_
    exact so_zret d_X_map_31 rfl
  · refine so_iload_n d_X_map_8 rfl ?_
    refine so_iflt d_X_map_9 (tgt := 30) (by decide) ?_ ?_
    · refine so_iconst d_X_map_30 rfl ?_
      exact so_zret d_X_map_31 rfl
    · refine so_iload_n d_X_map_12 rfl ?_
      refine so_bipush d_X_map_13 rfl ?_
      refine so_icmpgt d_X_map_15 (tgt := 30) (by decide) ?_ ?_
      · refine so_iconst d_X_map_30 rfl ?_
        exact so_zret d_X_map_31 rfl
      · refine so_iload d_X_map_18 ?_
        refine so_iflt d_X_map_20 (tgt := 30) (by decide) ?_ ?_
        · refine so_iconst d_X_map_30 rfl ?_
          exact so_zret d_X_map_31 rfl
        · refine so_iload d_X_map_23 ?_
          refine so_bipush d_X_map_25 rfl ?_
          refine so_icmple d_X_map_27 (tgt := 32) (by decide) ?_ ?_
          · exact so_jmp
          · refine so_iconst d_X_map_30 rfl ?_
            exact so_zret d_X_map_31 rfl
def k_X_map_32 (G : oG) (Post : oP) : oK := o_aload 0 <| o_getf 7 1 <| o_iconst 16 <| o_iload 1 <| o_imul <| o_iload 2 <| o_iadd <| o_iload 3 <| o_iconst 1 <| o_iadd <| o_iast <| o_aload 0 <| o_getf 7 2 <| o_iconst 16 <| o_iload 1 <| o_imul <| o_iload 2 <| o_iadd <| o_iload 4 <| o_iast <| o_iconst 1 <| o_zret Post
theorem s_X_map_32 {G : oG} {Post : oP} : oS G m_X_map Post 32 (k_X_map_32 G Post) := by
  unfold k_X_map_32
  refine so_aload_n d_X_map_32 rfl ?_
  refine so_getf cl_7 (k := 1) (by decide) w_563 d_X_map_33 ?_
  refine so_bipush d_X_map_36 rfl ?_
  refine so_iload_n d_X_map_38 rfl ?_
  refine so_imul d_X_map_39 ?_
  refine so_iload_n d_X_map_40 rfl ?_
  refine so_iadd d_X_map_41 ?_
  refine so_iload_n d_X_map_42 rfl ?_
  refine so_iconst d_X_map_43 rfl ?_
  refine so_iadd d_X_map_44 ?_
  refine so_iast d_X_map_45 ?_
  refine so_aload_n d_X_map_46 rfl ?_
  refine so_getf cl_7 (k := 2) (by decide) w_564 d_X_map_47 ?_
  refine so_bipush d_X_map_50 rfl ?_
  refine so_iload_n d_X_map_52 rfl ?_
  refine so_imul d_X_map_53 ?_
  refine so_iload_n d_X_map_54 rfl ?_
  refine so_iadd d_X_map_55 ?_
  refine so_iload d_X_map_56 ?_
  refine so_iast d_X_map_58 ?_
  refine so_iconst d_X_map_59 rfl ?_
  exact so_zret d_X_map_60 rfl
theorem d_X_unmap_0 : decode prog_9_method_5_code 0 = .ok (.iload_n 1, 1) := by decide +kernel
theorem d_X_unmap_1 : decode prog_9_method_5_code 1 = .ok (.iload_n 2, 1) := by decide +kernel
theorem d_X_unmap_2 : decode prog_9_method_5_code 2 = .ok (.invokestatic 81, 3) := by decide +kernel
theorem d_X_unmap_5 : decode prog_9_method_5_code 5 = .ok (.ifCond .eq 17, 3) := by decide +kernel
theorem d_X_unmap_8 : decode prog_9_method_5_code 8 = .ok (.aload_n 0, 1) := by decide +kernel
theorem d_X_unmap_9 : decode prog_9_method_5_code 9 = .ok (.getfield 13, 3) := by decide +kernel
theorem d_X_unmap_12 : decode prog_9_method_5_code 12 = .ok (.bipush 16, 2) := by decide +kernel
theorem d_X_unmap_14 : decode prog_9_method_5_code 14 = .ok (.iload_n 1, 1) := by decide +kernel
theorem d_X_unmap_15 : decode prog_9_method_5_code 15 = .ok (.imul, 1) := by decide +kernel
theorem d_X_unmap_16 : decode prog_9_method_5_code 16 = .ok (.iload_n 2, 1) := by decide +kernel
theorem d_X_unmap_17 : decode prog_9_method_5_code 17 = .ok (.iadd, 1) := by decide +kernel
theorem d_X_unmap_18 : decode prog_9_method_5_code 18 = .ok (.iaload, 1) := by decide +kernel
theorem d_X_unmap_19 : decode prog_9_method_5_code 19 = .ok (.ifCond .ne 5, 3) := by decide +kernel
theorem d_X_unmap_22 : decode prog_9_method_5_code 22 = .ok (.iconst 0, 1) := by decide +kernel
theorem d_X_unmap_23 : decode prog_9_method_5_code 23 = .ok (.ireturn, 1) := by decide +kernel
theorem d_X_unmap_24 : decode prog_9_method_5_code 24 = .ok (.aload_n 0, 1) := by decide +kernel
theorem d_X_unmap_25 : decode prog_9_method_5_code 25 = .ok (.getfield 13, 3) := by decide +kernel
theorem d_X_unmap_28 : decode prog_9_method_5_code 28 = .ok (.bipush 16, 2) := by decide +kernel
theorem d_X_unmap_30 : decode prog_9_method_5_code 30 = .ok (.iload_n 1, 1) := by decide +kernel
theorem d_X_unmap_31 : decode prog_9_method_5_code 31 = .ok (.imul, 1) := by decide +kernel
theorem d_X_unmap_32 : decode prog_9_method_5_code 32 = .ok (.iload_n 2, 1) := by decide +kernel
theorem d_X_unmap_33 : decode prog_9_method_5_code 33 = .ok (.iadd, 1) := by decide +kernel
theorem d_X_unmap_34 : decode prog_9_method_5_code 34 = .ok (.iconst 0, 1) := by decide +kernel
theorem d_X_unmap_35 : decode prog_9_method_5_code 35 = .ok (.iastore, 1) := by decide +kernel
theorem d_X_unmap_36 : decode prog_9_method_5_code 36 = .ok (.iconst 1, 1) := by decide +kernel
theorem d_X_unmap_37 : decode prog_9_method_5_code 37 = .ok (.ireturn, 1) := by decide +kernel
def k_X_unmap_0 (G : oG) (Post : oP) : oK := o_iload 1 <| o_iload 2 <| o_callS G m_X_isPage 2 <| o_jmp G m_X_unmap Post 5 [0, 1, 2]
theorem s_X_unmap_0 {G : oG} {Post : oP} : oS G m_X_unmap Post 0 (k_X_unmap_0 G Post) := by
  unfold k_X_unmap_0
  refine so_iload_n d_X_unmap_0 rfl ?_
  refine so_iload_n d_X_unmap_1 rfl ?_
  refine so_callS f_X_isPage w_653 w_652 (by decide) (by decide) d_X_unmap_2 ?_
  exact so_jmp
def k_X_unmap_5 (G : oG) (Post : oP) : oK := o_ifeq (o_iconst 0 <| o_zret Post) (o_aload 0 <| o_getf 7 1 <| o_iconst 16 <| o_iload 1 <| o_imul <| o_iload 2 <| o_iadd <| o_iald G <| o_ifne (o_aload 0 <| o_getf 7 1 <| o_iconst 16 <| o_iload 1 <| o_imul <| o_iload 2 <| o_iadd <| o_iconst 0 <| o_iast <| o_iconst 1 <| o_zret Post) (o_iconst 0 <| o_zret Post))
theorem s_X_unmap_5 {G : oG} {Post : oP} : oS G m_X_unmap Post 5 (k_X_unmap_5 G Post) := by
  unfold k_X_unmap_5
  refine so_ifeq d_X_unmap_5 (tgt := 22) (by decide) ?_ ?_
  · refine so_iconst d_X_unmap_22 rfl ?_
    exact so_zret d_X_unmap_23 rfl
  · refine so_aload_n d_X_unmap_8 rfl ?_
    refine so_getf cl_7 (k := 1) (by decide) w_563 d_X_unmap_9 ?_
    refine so_bipush d_X_unmap_12 rfl ?_
    refine so_iload_n d_X_unmap_14 rfl ?_
    refine so_imul d_X_unmap_15 ?_
    refine so_iload_n d_X_unmap_16 rfl ?_
    refine so_iadd d_X_unmap_17 ?_
    refine so_iald d_X_unmap_18 ?_
    refine so_ifne d_X_unmap_19 (tgt := 24) (by decide) ?_ ?_
    · refine so_aload_n d_X_unmap_24 rfl ?_
      refine so_getf cl_7 (k := 1) (by decide) w_563 d_X_unmap_25 ?_
      refine so_bipush d_X_unmap_28 rfl ?_
      refine so_iload_n d_X_unmap_30 rfl ?_
      refine so_imul d_X_unmap_31 ?_
      refine so_iload_n d_X_unmap_32 rfl ?_
      refine so_iadd d_X_unmap_33 ?_
      refine so_iconst d_X_unmap_34 rfl ?_
      refine so_iast d_X_unmap_35 ?_
      refine so_iconst d_X_unmap_36 rfl ?_
      exact so_zret d_X_unmap_37 rfl
    · refine so_iconst d_X_unmap_22 rfl ?_
      exact so_zret d_X_unmap_23 rfl
theorem d_X_page_0 : decode prog_9_method_6_code 0 = .ok (.iload_n 1, 1) := by decide +kernel
theorem d_X_page_1 : decode prog_9_method_6_code 1 = .ok (.iload_n 2, 1) := by decide +kernel
theorem d_X_page_2 : decode prog_9_method_6_code 2 = .ok (.invokestatic 81, 3) := by decide +kernel
theorem d_X_page_5 : decode prog_9_method_6_code 5 = .ok (.ifCond .eq 17, 3) := by decide +kernel
theorem d_X_page_8 : decode prog_9_method_6_code 8 = .ok (.aload_n 0, 1) := by decide +kernel
theorem d_X_page_9 : decode prog_9_method_6_code 9 = .ok (.getfield 13, 3) := by decide +kernel
theorem d_X_page_12 : decode prog_9_method_6_code 12 = .ok (.bipush 16, 2) := by decide +kernel
theorem d_X_page_14 : decode prog_9_method_6_code 14 = .ok (.iload_n 1, 1) := by decide +kernel
theorem d_X_page_15 : decode prog_9_method_6_code 15 = .ok (.imul, 1) := by decide +kernel
theorem d_X_page_16 : decode prog_9_method_6_code 16 = .ok (.iload_n 2, 1) := by decide +kernel
theorem d_X_page_17 : decode prog_9_method_6_code 17 = .ok (.iadd, 1) := by decide +kernel
theorem d_X_page_18 : decode prog_9_method_6_code 18 = .ok (.iaload, 1) := by decide +kernel
theorem d_X_page_19 : decode prog_9_method_6_code 19 = .ok (.ifCond .ne 5, 3) := by decide +kernel
theorem d_X_page_22 : decode prog_9_method_6_code 22 = .ok (.iconst (-1), 1) := by decide +kernel
theorem d_X_page_23 : decode prog_9_method_6_code 23 = .ok (.ireturn, 1) := by decide +kernel
theorem d_X_page_24 : decode prog_9_method_6_code 24 = .ok (.bipush 8, 2) := by decide +kernel
theorem d_X_page_26 : decode prog_9_method_6_code 26 = .ok (.aload_n 0, 1) := by decide +kernel
theorem d_X_page_27 : decode prog_9_method_6_code 27 = .ok (.getfield 13, 3) := by decide +kernel
theorem d_X_page_30 : decode prog_9_method_6_code 30 = .ok (.bipush 16, 2) := by decide +kernel
theorem d_X_page_32 : decode prog_9_method_6_code 32 = .ok (.iload_n 1, 1) := by decide +kernel
theorem d_X_page_33 : decode prog_9_method_6_code 33 = .ok (.imul, 1) := by decide +kernel
theorem d_X_page_34 : decode prog_9_method_6_code 34 = .ok (.iload_n 2, 1) := by decide +kernel
theorem d_X_page_35 : decode prog_9_method_6_code 35 = .ok (.iadd, 1) := by decide +kernel
theorem d_X_page_36 : decode prog_9_method_6_code 36 = .ok (.iaload, 1) := by decide +kernel
theorem d_X_page_37 : decode prog_9_method_6_code 37 = .ok (.iconst 1, 1) := by decide +kernel
theorem d_X_page_38 : decode prog_9_method_6_code 38 = .ok (.isub, 1) := by decide +kernel
theorem d_X_page_39 : decode prog_9_method_6_code 39 = .ok (.imul, 1) := by decide +kernel
theorem d_X_page_40 : decode prog_9_method_6_code 40 = .ok (.aload_n 0, 1) := by decide +kernel
theorem d_X_page_41 : decode prog_9_method_6_code 41 = .ok (.getfield 16, 3) := by decide +kernel
theorem d_X_page_44 : decode prog_9_method_6_code 44 = .ok (.bipush 16, 2) := by decide +kernel
theorem d_X_page_46 : decode prog_9_method_6_code 46 = .ok (.iload_n 1, 1) := by decide +kernel
theorem d_X_page_47 : decode prog_9_method_6_code 47 = .ok (.imul, 1) := by decide +kernel
theorem d_X_page_48 : decode prog_9_method_6_code 48 = .ok (.iload_n 2, 1) := by decide +kernel
theorem d_X_page_49 : decode prog_9_method_6_code 49 = .ok (.iadd, 1) := by decide +kernel
theorem d_X_page_50 : decode prog_9_method_6_code 50 = .ok (.iaload, 1) := by decide +kernel
theorem d_X_page_51 : decode prog_9_method_6_code 51 = .ok (.iadd, 1) := by decide +kernel
theorem d_X_page_52 : decode prog_9_method_6_code 52 = .ok (.ireturn, 1) := by decide +kernel
def k_X_page_0 (G : oG) (Post : oP) : oK := o_iload 1 <| o_iload 2 <| o_callS G m_X_isPage 2 <| o_jmp G m_X_page Post 5 [0, 1, 2]
theorem s_X_page_0 {G : oG} {Post : oP} : oS G m_X_page Post 0 (k_X_page_0 G Post) := by
  unfold k_X_page_0
  refine so_iload_n d_X_page_0 rfl ?_
  refine so_iload_n d_X_page_1 rfl ?_
  refine so_callS f_X_isPage w_653 w_652 (by decide) (by decide) d_X_page_2 ?_
  exact so_jmp
def k_X_page_5 (G : oG) (Post : oP) : oK := o_ifeq (o_iconst (-1) <| o_iret Post) (o_aload 0 <| o_getf 7 1 <| o_iconst 16 <| o_iload 1 <| o_imul <| o_iload 2 <| o_iadd <| o_iald G <| o_ifne (o_jmp G m_X_page Post 24 [0, 1, 2]) (o_iconst (-1) <| o_iret Post))
theorem s_X_page_5 {G : oG} {Post : oP} : oS G m_X_page Post 5 (k_X_page_5 G Post) := by
  unfold k_X_page_5
  refine so_ifeq d_X_page_5 (tgt := 22) (by decide) ?_ ?_
  · refine so_iconst d_X_page_22 rfl ?_
    exact so_iret d_X_page_23 rfl
  · refine so_aload_n d_X_page_8 rfl ?_
    refine so_getf cl_7 (k := 1) (by decide) w_563 d_X_page_9 ?_
    refine so_bipush d_X_page_12 rfl ?_
    refine so_iload_n d_X_page_14 rfl ?_
    refine so_imul d_X_page_15 ?_
    refine so_iload_n d_X_page_16 rfl ?_
    refine so_iadd d_X_page_17 ?_
    refine so_iald d_X_page_18 ?_
    refine so_ifne d_X_page_19 (tgt := 24) (by decide) ?_ ?_
    · exact so_jmp
    · refine so_iconst d_X_page_22 rfl ?_
      exact so_iret d_X_page_23 rfl
def k_X_page_24 (G : oG) (Post : oP) : oK := o_iconst 8 <| o_aload 0 <| o_getf 7 1 <| o_iconst 16 <| o_iload 1 <| o_imul <| o_iload 2 <| o_iadd <| o_iald G <| o_iconst 1 <| o_isub <| o_imul <| o_aload 0 <| o_getf 7 2 <| o_iconst 16 <| o_iload 1 <| o_imul <| o_iload 2 <| o_iadd <| o_iald G <| o_iadd <| o_iret Post
theorem s_X_page_24 {G : oG} {Post : oP} : oS G m_X_page Post 24 (k_X_page_24 G Post) := by
  unfold k_X_page_24
  refine so_bipush d_X_page_24 rfl ?_
  refine so_aload_n d_X_page_26 rfl ?_
  refine so_getf cl_7 (k := 1) (by decide) w_563 d_X_page_27 ?_
  refine so_bipush d_X_page_30 rfl ?_
  refine so_iload_n d_X_page_32 rfl ?_
  refine so_imul d_X_page_33 ?_
  refine so_iload_n d_X_page_34 rfl ?_
  refine so_iadd d_X_page_35 ?_
  refine so_iald d_X_page_36 ?_
  refine so_iconst d_X_page_37 rfl ?_
  refine so_isub d_X_page_38 ?_
  refine so_imul d_X_page_39 ?_
  refine so_aload_n d_X_page_40 rfl ?_
  refine so_getf cl_7 (k := 2) (by decide) w_564 d_X_page_41 ?_
  refine so_bipush d_X_page_44 rfl ?_
  refine so_iload_n d_X_page_46 rfl ?_
  refine so_imul d_X_page_47 ?_
  refine so_iload_n d_X_page_48 rfl ?_
  refine so_iadd d_X_page_49 ?_
  refine so_iald d_X_page_50 ?_
  refine so_iadd d_X_page_51 ?_
  exact so_iret d_X_page_52 rfl
theorem d_X_isByte_0 : decode prog_9_method_7_code 0 = .ok (.iload_n 0, 1) := by decide +kernel
theorem d_X_isByte_1 : decode prog_9_method_7_code 1 = .ok (.ifCond .lt 23, 3) := by decide +kernel
theorem d_X_isByte_4 : decode prog_9_method_7_code 4 = .ok (.iload_n 0, 1) := by decide +kernel
theorem d_X_isByte_5 : decode prog_9_method_7_code 5 = .ok (.bipush 19, 2) := by decide +kernel
theorem d_X_isByte_7 : decode prog_9_method_7_code 7 = .ok (.if_icmp .gt 17, 3) := by decide +kernel
theorem d_X_isByte_10 : decode prog_9_method_7_code 10 = .ok (.iload_n 1, 1) := by decide +kernel
theorem d_X_isByte_11 : decode prog_9_method_7_code 11 = .ok (.ifCond .lt 13, 3) := by decide +kernel
theorem d_X_isByte_14 : decode prog_9_method_7_code 14 = .ok (.iload_n 1, 1) := by decide +kernel
theorem d_X_isByte_15 : decode prog_9_method_7_code 15 = .ok (.bipush 15, 2) := by decide +kernel
theorem d_X_isByte_17 : decode prog_9_method_7_code 17 = .ok (.if_icmp .gt 7, 3) := by decide +kernel
theorem d_X_isByte_20 : decode prog_9_method_7_code 20 = .ok (.iconst 1, 1) := by decide +kernel
theorem d_X_isByte_21 : decode prog_9_method_7_code 21 = .ok (.goto 4, 3) := by decide +kernel
theorem d_X_isByte_24 : decode prog_9_method_7_code 24 = .ok (.iconst 0, 1) := by decide +kernel
theorem d_X_isByte_25 : decode prog_9_method_7_code 25 = .ok (.ireturn, 1) := by decide +kernel
def k_X_isByte_0 (G : oG) (Post : oP) : oK := o_iload 0 <| o_iflt (o_iconst 0 <| o_zret Post) (o_iload 0 <| o_iconst 19 <| o_icmpgt (o_iconst 0 <| o_zret Post) (o_iload 1 <| o_iflt (o_iconst 0 <| o_zret Post) (o_iload 1 <| o_iconst 15 <| o_icmpgt (o_iconst 0 <| o_zret Post) (o_iconst 1 <| o_zret Post))))
theorem s_X_isByte_0 {G : oG} {Post : oP} : oS G m_X_isByte Post 0 (k_X_isByte_0 G Post) := by
  unfold k_X_isByte_0
  refine so_iload_n d_X_isByte_0 rfl ?_
  refine so_iflt d_X_isByte_1 (tgt := 24) (by decide) ?_ ?_
  · refine so_iconst d_X_isByte_24 rfl ?_
    exact so_zret d_X_isByte_25 rfl
  · refine so_iload_n d_X_isByte_4 rfl ?_
    refine so_bipush d_X_isByte_5 rfl ?_
    refine so_icmpgt d_X_isByte_7 (tgt := 24) (by decide) ?_ ?_
    · refine so_iconst d_X_isByte_24 rfl ?_
      exact so_zret d_X_isByte_25 rfl
    · refine so_iload_n d_X_isByte_10 rfl ?_
      refine so_iflt d_X_isByte_11 (tgt := 24) (by decide) ?_ ?_
      · refine so_iconst d_X_isByte_24 rfl ?_
        exact so_zret d_X_isByte_25 rfl
      · refine so_iload_n d_X_isByte_14 rfl ?_
        refine so_bipush d_X_isByte_15 rfl ?_
        refine so_icmpgt d_X_isByte_17 (tgt := 24) (by decide) ?_ ?_
        · refine so_iconst d_X_isByte_24 rfl ?_
          exact so_zret d_X_isByte_25 rfl
        · refine so_iconst d_X_isByte_20 rfl ?_
          refine so_goto d_X_isByte_21 (tgt := 25) (by decide) ?_
          exact so_zret d_X_isByte_25 rfl
theorem d_X_poke_0 : decode prog_9_method_8_code 0 = .ok (.iload_n 1, 1) := by decide +kernel
theorem d_X_poke_1 : decode prog_9_method_8_code 1 = .ok (.iload_n 2, 1) := by decide +kernel
theorem d_X_poke_2 : decode prog_9_method_8_code 2 = .ok (.invokestatic 85, 3) := by decide +kernel
theorem d_X_poke_5 : decode prog_9_method_8_code 5 = .ok (.ifCond .eq 14, 3) := by decide +kernel
theorem d_X_poke_8 : decode prog_9_method_8_code 8 = .ok (.iload_n 3, 1) := by decide +kernel
theorem d_X_poke_9 : decode prog_9_method_8_code 9 = .ok (.ifCond .lt 10, 3) := by decide +kernel
theorem d_X_poke_12 : decode prog_9_method_8_code 12 = .ok (.iload_n 3, 1) := by decide +kernel
theorem d_X_poke_13 : decode prog_9_method_8_code 13 = .ok (.sipush 255, 3) := by decide +kernel
theorem d_X_poke_16 : decode prog_9_method_8_code 16 = .ok (.if_icmp .le 5, 3) := by decide +kernel
theorem d_X_poke_19 : decode prog_9_method_8_code 19 = .ok (.iconst 0, 1) := by decide +kernel
theorem d_X_poke_20 : decode prog_9_method_8_code 20 = .ok (.ireturn, 1) := by decide +kernel
theorem d_X_poke_21 : decode prog_9_method_8_code 21 = .ok (.aload_n 0, 1) := by decide +kernel
theorem d_X_poke_22 : decode prog_9_method_8_code 22 = .ok (.getfield 7, 3) := by decide +kernel
theorem d_X_poke_25 : decode prog_9_method_8_code 25 = .ok (.bipush 16, 2) := by decide +kernel
theorem d_X_poke_27 : decode prog_9_method_8_code 27 = .ok (.iload_n 1, 1) := by decide +kernel
theorem d_X_poke_28 : decode prog_9_method_8_code 28 = .ok (.imul, 1) := by decide +kernel
theorem d_X_poke_29 : decode prog_9_method_8_code 29 = .ok (.iload_n 2, 1) := by decide +kernel
theorem d_X_poke_30 : decode prog_9_method_8_code 30 = .ok (.iadd, 1) := by decide +kernel
theorem d_X_poke_31 : decode prog_9_method_8_code 31 = .ok (.iload_n 3, 1) := by decide +kernel
theorem d_X_poke_32 : decode prog_9_method_8_code 32 = .ok (.iastore, 1) := by decide +kernel
theorem d_X_poke_33 : decode prog_9_method_8_code 33 = .ok (.iconst 1, 1) := by decide +kernel
theorem d_X_poke_34 : decode prog_9_method_8_code 34 = .ok (.ireturn, 1) := by decide +kernel
def k_X_poke_0 (G : oG) (Post : oP) : oK := o_iload 1 <| o_iload 2 <| o_callS G m_X_isByte 2 <| o_jmp G m_X_poke Post 5 [0, 1, 2, 3]
theorem s_X_poke_0 {G : oG} {Post : oP} : oS G m_X_poke Post 0 (k_X_poke_0 G Post) := by
  unfold k_X_poke_0
  refine so_iload_n d_X_poke_0 rfl ?_
  refine so_iload_n d_X_poke_1 rfl ?_
  refine so_callS f_X_isByte w_671 w_670 (by decide) (by decide) d_X_poke_2 ?_
  exact so_jmp
def k_X_poke_5 (G : oG) (Post : oP) : oK := o_ifeq (o_iconst 0 <| o_zret Post) (o_iload 3 <| o_iflt (o_iconst 0 <| o_zret Post) (o_iload 3 <| o_iconst 255 <| o_icmple (o_aload 0 <| o_getf 7 0 <| o_iconst 16 <| o_iload 1 <| o_imul <| o_iload 2 <| o_iadd <| o_iload 3 <| o_iast <| o_iconst 1 <| o_zret Post) (o_iconst 0 <| o_zret Post)))
theorem s_X_poke_5 {G : oG} {Post : oP} : oS G m_X_poke Post 5 (k_X_poke_5 G Post) := by
  unfold k_X_poke_5
  refine so_ifeq d_X_poke_5 (tgt := 19) (by decide) ?_ ?_
  · refine so_iconst d_X_poke_19 rfl ?_
    exact so_zret d_X_poke_20 rfl
  · refine so_iload_n d_X_poke_8 rfl ?_
    refine so_iflt d_X_poke_9 (tgt := 19) (by decide) ?_ ?_
    · refine so_iconst d_X_poke_19 rfl ?_
      exact so_zret d_X_poke_20 rfl
    · refine so_iload_n d_X_poke_12 rfl ?_
      refine so_sipush d_X_poke_13 rfl ?_
      refine so_icmple d_X_poke_16 (tgt := 21) (by decide) ?_ ?_
      · refine so_aload_n d_X_poke_21 rfl ?_
        refine so_getf cl_7 (k := 0) (by decide) w_562 d_X_poke_22 ?_
        refine so_bipush d_X_poke_25 rfl ?_
        refine so_iload_n d_X_poke_27 rfl ?_
        refine so_imul d_X_poke_28 ?_
        refine so_iload_n d_X_poke_29 rfl ?_
        refine so_iadd d_X_poke_30 ?_
        refine so_iload_n d_X_poke_31 rfl ?_
        refine so_iast d_X_poke_32 ?_
        refine so_iconst d_X_poke_33 rfl ?_
        exact so_zret d_X_poke_34 rfl
      · refine so_iconst d_X_poke_19 rfl ?_
        exact so_zret d_X_poke_20 rfl
theorem d_X_peek_0 : decode prog_9_method_9_code 0 = .ok (.iload_n 1, 1) := by decide +kernel
theorem d_X_peek_1 : decode prog_9_method_9_code 1 = .ok (.iload_n 2, 1) := by decide +kernel
theorem d_X_peek_2 : decode prog_9_method_9_code 2 = .ok (.invokestatic 85, 3) := by decide +kernel
theorem d_X_peek_5 : decode prog_9_method_9_code 5 = .ok (.ifCond .eq 17, 3) := by decide +kernel
theorem d_X_peek_8 : decode prog_9_method_9_code 8 = .ok (.aload_n 0, 1) := by decide +kernel
theorem d_X_peek_9 : decode prog_9_method_9_code 9 = .ok (.getfield 7, 3) := by decide +kernel
theorem d_X_peek_12 : decode prog_9_method_9_code 12 = .ok (.bipush 16, 2) := by decide +kernel
theorem d_X_peek_14 : decode prog_9_method_9_code 14 = .ok (.iload_n 1, 1) := by decide +kernel
theorem d_X_peek_15 : decode prog_9_method_9_code 15 = .ok (.imul, 1) := by decide +kernel
theorem d_X_peek_16 : decode prog_9_method_9_code 16 = .ok (.iload_n 2, 1) := by decide +kernel
theorem d_X_peek_17 : decode prog_9_method_9_code 17 = .ok (.iadd, 1) := by decide +kernel
theorem d_X_peek_18 : decode prog_9_method_9_code 18 = .ok (.iaload, 1) := by decide +kernel
theorem d_X_peek_19 : decode prog_9_method_9_code 19 = .ok (.goto 4, 3) := by decide +kernel
theorem d_X_peek_22 : decode prog_9_method_9_code 22 = .ok (.iconst (-1), 1) := by decide +kernel
theorem d_X_peek_23 : decode prog_9_method_9_code 23 = .ok (.ireturn, 1) := by decide +kernel
def k_X_peek_0 (G : oG) (Post : oP) : oK := o_iload 1 <| o_iload 2 <| o_callS G m_X_isByte 2 <| o_jmp G m_X_peek Post 5 [0, 1, 2]
theorem s_X_peek_0 {G : oG} {Post : oP} : oS G m_X_peek Post 0 (k_X_peek_0 G Post) := by
  unfold k_X_peek_0
  refine so_iload_n d_X_peek_0 rfl ?_
  refine so_iload_n d_X_peek_1 rfl ?_
  refine so_callS f_X_isByte w_671 w_670 (by decide) (by decide) d_X_peek_2 ?_
  exact so_jmp
def k_X_peek_5 (G : oG) (Post : oP) : oK := o_ifeq (o_iconst (-1) <| o_iret Post) (o_aload 0 <| o_getf 7 0 <| o_iconst 16 <| o_iload 1 <| o_imul <| o_iload 2 <| o_iadd <| o_iald G <| o_iret Post)
theorem s_X_peek_5 {G : oG} {Post : oP} : oS G m_X_peek Post 5 (k_X_peek_5 G Post) := by
  unfold k_X_peek_5
  refine so_ifeq d_X_peek_5 (tgt := 22) (by decide) ?_ ?_
  · refine so_iconst d_X_peek_22 rfl ?_
    exact so_iret d_X_peek_23 rfl
  · refine so_aload_n d_X_peek_8 rfl ?_
    refine so_getf cl_7 (k := 0) (by decide) w_562 d_X_peek_9 ?_
    refine so_bipush d_X_peek_12 rfl ?_
    refine so_iload_n d_X_peek_14 rfl ?_
    refine so_imul d_X_peek_15 ?_
    refine so_iload_n d_X_peek_16 rfl ?_
    refine so_iadd d_X_peek_17 ?_
    refine so_iald d_X_peek_18 ?_
    refine so_goto d_X_peek_19 (tgt := 23) (by decide) ?_
    exact so_iret d_X_peek_23 rfl
theorem d_X_set_0 : decode prog_9_method_10_code 0 = .ok (.iload_n 1, 1) := by decide +kernel
theorem d_X_set_1 : decode prog_9_method_10_code 1 = .ok (.invokestatic 77, 3) := by decide +kernel
theorem d_X_set_4 : decode prog_9_method_10_code 4 = .ok (.ifCond .eq 12, 3) := by decide +kernel
theorem d_X_set_7 : decode prog_9_method_10_code 7 = .ok (.iload_n 2, 1) := by decide +kernel
theorem d_X_set_8 : decode prog_9_method_10_code 8 = .ok (.ifCond .lt 8, 3) := by decide +kernel
theorem d_X_set_11 : decode prog_9_method_10_code 11 = .ok (.iload_n 2, 1) := by decide +kernel
theorem d_X_set_12 : decode prog_9_method_10_code 12 = .ok (.iconst 2, 1) := by decide +kernel
theorem d_X_set_13 : decode prog_9_method_10_code 13 = .ok (.if_icmp .le 5, 3) := by decide +kernel
theorem d_X_set_16 : decode prog_9_method_10_code 16 = .ok (.iconst 0, 1) := by decide +kernel
theorem d_X_set_17 : decode prog_9_method_10_code 17 = .ok (.ireturn, 1) := by decide +kernel
theorem d_X_set_18 : decode prog_9_method_10_code 18 = .ok (.aload_n 0, 1) := by decide +kernel
theorem d_X_set_19 : decode prog_9_method_10_code 19 = .ok (.getfield 19, 3) := by decide +kernel
theorem d_X_set_22 : decode prog_9_method_10_code 22 = .ok (.iconst 3, 1) := by decide +kernel
theorem d_X_set_23 : decode prog_9_method_10_code 23 = .ok (.iload_n 1, 1) := by decide +kernel
theorem d_X_set_24 : decode prog_9_method_10_code 24 = .ok (.imul, 1) := by decide +kernel
theorem d_X_set_25 : decode prog_9_method_10_code 25 = .ok (.iload_n 2, 1) := by decide +kernel
theorem d_X_set_26 : decode prog_9_method_10_code 26 = .ok (.iadd, 1) := by decide +kernel
theorem d_X_set_27 : decode prog_9_method_10_code 27 = .ok (.iload_n 3, 1) := by decide +kernel
theorem d_X_set_28 : decode prog_9_method_10_code 28 = .ok (.iastore, 1) := by decide +kernel
theorem d_X_set_29 : decode prog_9_method_10_code 29 = .ok (.iconst 1, 1) := by decide +kernel
theorem d_X_set_30 : decode prog_9_method_10_code 30 = .ok (.ireturn, 1) := by decide +kernel
def k_X_set_0 (G : oG) (Post : oP) : oK := o_iload 1 <| o_callS G m_X_isProcess 1 <| o_jmp G m_X_set Post 4 [0, 1, 2, 3]
theorem s_X_set_0 {G : oG} {Post : oP} : oS G m_X_set Post 0 (k_X_set_0 G Post) := by
  unfold k_X_set_0
  refine so_iload_n d_X_set_0 rfl ?_
  refine so_callS f_X_isProcess w_656 w_655 (by decide) (by decide) d_X_set_1 ?_
  exact so_jmp
def k_X_set_4 (G : oG) (Post : oP) : oK := o_ifeq (o_iconst 0 <| o_zret Post) (o_iload 2 <| o_iflt (o_iconst 0 <| o_zret Post) (o_iload 2 <| o_iconst 2 <| o_icmple (o_aload 0 <| o_getf 7 3 <| o_iconst 3 <| o_iload 1 <| o_imul <| o_iload 2 <| o_iadd <| o_iload 3 <| o_iast <| o_iconst 1 <| o_zret Post) (o_iconst 0 <| o_zret Post)))
theorem s_X_set_4 {G : oG} {Post : oP} : oS G m_X_set Post 4 (k_X_set_4 G Post) := by
  unfold k_X_set_4
  refine so_ifeq d_X_set_4 (tgt := 16) (by decide) ?_ ?_
  · refine so_iconst d_X_set_16 rfl ?_
    exact so_zret d_X_set_17 rfl
  · refine so_iload_n d_X_set_7 rfl ?_
    refine so_iflt d_X_set_8 (tgt := 16) (by decide) ?_ ?_
    · refine so_iconst d_X_set_16 rfl ?_
      exact so_zret d_X_set_17 rfl
    · refine so_iload_n d_X_set_11 rfl ?_
      refine so_iconst d_X_set_12 rfl ?_
      refine so_icmple d_X_set_13 (tgt := 18) (by decide) ?_ ?_
      · refine so_aload_n d_X_set_18 rfl ?_
        refine so_getf cl_7 (k := 3) (by decide) w_565 d_X_set_19 ?_
        refine so_iconst d_X_set_22 rfl ?_
        refine so_iload_n d_X_set_23 rfl ?_
        refine so_imul d_X_set_24 ?_
        refine so_iload_n d_X_set_25 rfl ?_
        refine so_iadd d_X_set_26 ?_
        refine so_iload_n d_X_set_27 rfl ?_
        refine so_iast d_X_set_28 ?_
        refine so_iconst d_X_set_29 rfl ?_
        exact so_zret d_X_set_30 rfl
      · refine so_iconst d_X_set_16 rfl ?_
        exact so_zret d_X_set_17 rfl
theorem d_X_register_0 : decode prog_9_method_11_code 0 = .ok (.iload_n 1, 1) := by decide +kernel
theorem d_X_register_1 : decode prog_9_method_11_code 1 = .ok (.invokestatic 77, 3) := by decide +kernel
theorem d_X_register_4 : decode prog_9_method_11_code 4 = .ok (.ifCond .eq 25, 3) := by decide +kernel
theorem d_X_register_7 : decode prog_9_method_11_code 7 = .ok (.iload_n 2, 1) := by decide +kernel
theorem d_X_register_8 : decode prog_9_method_11_code 8 = .ok (.ifCond .lt 21, 3) := by decide +kernel
theorem d_X_register_11 : decode prog_9_method_11_code 11 = .ok (.iload_n 2, 1) := by decide +kernel
theorem d_X_register_12 : decode prog_9_method_11_code 12 = .ok (.iconst 2, 1) := by decide +kernel
theorem d_X_register_13 : decode prog_9_method_11_code 13 = .ok (.if_icmp .gt 16, 3) := by decide +kernel
theorem d_X_register_16 : decode prog_9_method_11_code 16 = .ok (.aload_n 0, 1) := by decide +kernel
theorem d_X_register_17 : decode prog_9_method_11_code 17 = .ok (.getfield 19, 3) := by decide +kernel
theorem d_X_register_20 : decode prog_9_method_11_code 20 = .ok (.iconst 3, 1) := by decide +kernel
theorem d_X_register_21 : decode prog_9_method_11_code 21 = .ok (.iload_n 1, 1) := by decide +kernel
theorem d_X_register_22 : decode prog_9_method_11_code 22 = .ok (.imul, 1) := by decide +kernel
theorem d_X_register_23 : decode prog_9_method_11_code 23 = .ok (.iload_n 2, 1) := by decide +kernel
theorem d_X_register_24 : decode prog_9_method_11_code 24 = .ok (.iadd, 1) := by decide +kernel
theorem d_X_register_25 : decode prog_9_method_11_code 25 = .ok (.iaload, 1) := by decide +kernel
theorem d_X_register_26 : decode prog_9_method_11_code 26 = .ok (.goto 4, 3) := by decide +kernel
theorem d_X_register_29 : decode prog_9_method_11_code 29 = .ok (.iconst 0, 1) := by decide +kernel
theorem d_X_register_30 : decode prog_9_method_11_code 30 = .ok (.ireturn, 1) := by decide +kernel
def k_X_register_0 (G : oG) (Post : oP) : oK := o_iload 1 <| o_callS G m_X_isProcess 1 <| o_jmp G m_X_register Post 4 [0, 1, 2]
theorem s_X_register_0 {G : oG} {Post : oP} : oS G m_X_register Post 0 (k_X_register_0 G Post) := by
  unfold k_X_register_0
  refine so_iload_n d_X_register_0 rfl ?_
  refine so_callS f_X_isProcess w_656 w_655 (by decide) (by decide) d_X_register_1 ?_
  exact so_jmp
def k_X_register_4 (G : oG) (Post : oP) : oK := o_ifeq (o_iconst 0 <| o_iret Post) (o_iload 2 <| o_iflt (o_iconst 0 <| o_iret Post) (o_iload 2 <| o_iconst 2 <| o_icmpgt (o_iconst 0 <| o_iret Post) (o_aload 0 <| o_getf 7 3 <| o_iconst 3 <| o_iload 1 <| o_imul <| o_iload 2 <| o_iadd <| o_iald G <| o_iret Post)))
theorem s_X_register_4 {G : oG} {Post : oP} : oS G m_X_register Post 4 (k_X_register_4 G Post) := by
  unfold k_X_register_4
  refine so_ifeq d_X_register_4 (tgt := 29) (by decide) ?_ ?_
  · refine so_iconst d_X_register_29 rfl ?_
    exact so_iret d_X_register_30 rfl
  · refine so_iload_n d_X_register_7 rfl ?_
    refine so_iflt d_X_register_8 (tgt := 29) (by decide) ?_ ?_
    · refine so_iconst d_X_register_29 rfl ?_
      exact so_iret d_X_register_30 rfl
    · refine so_iload_n d_X_register_11 rfl ?_
      refine so_iconst d_X_register_12 rfl ?_
      refine so_icmpgt d_X_register_13 (tgt := 29) (by decide) ?_ ?_
      · refine so_iconst d_X_register_29 rfl ?_
        exact so_iret d_X_register_30 rfl
      · refine so_aload_n d_X_register_16 rfl ?_
        refine so_getf cl_7 (k := 3) (by decide) w_565 d_X_register_17 ?_
        refine so_iconst d_X_register_20 rfl ?_
        refine so_iload_n d_X_register_21 rfl ?_
        refine so_imul d_X_register_22 ?_
        refine so_iload_n d_X_register_23 rfl ?_
        refine so_iadd d_X_register_24 ?_
        refine so_iald d_X_register_25 ?_
        refine so_goto d_X_register_26 (tgt := 30) (by decide) ?_
        exact so_iret d_X_register_30 rfl
theorem d_X_place_0 : decode prog_9_method_17_code 0 = .ok (.iload_n 1, 1) := by decide +kernel
theorem d_X_place_1 : decode prog_9_method_17_code 1 = .ok (.ifCond .lt 10, 3) := by decide +kernel
theorem d_X_place_4 : decode prog_9_method_17_code 4 = .ok (.iload_n 1, 1) := by decide +kernel
theorem d_X_place_5 : decode prog_9_method_17_code 5 = .ok (.sipush 255, 3) := by decide +kernel
theorem d_X_place_8 : decode prog_9_method_17_code 8 = .ok (.if_icmp .le 5, 3) := by decide +kernel
theorem d_X_place_11 : decode prog_9_method_17_code 11 = .ok (.iconst (-1), 1) := by decide +kernel
theorem d_X_place_12 : decode prog_9_method_17_code 12 = .ok (.ireturn, 1) := by decide +kernel
theorem d_X_place_13 : decode prog_9_method_17_code 13 = .ok (.bipush 16, 2) := by decide +kernel
theorem d_X_place_15 : decode prog_9_method_17_code 15 = .ok (.aload_n 0, 1) := by decide +kernel
theorem d_X_place_16 : decode prog_9_method_17_code 16 = .ok (.getfield 92, 3) := by decide +kernel
theorem d_X_place_19 : decode prog_9_method_17_code 19 = .ok (.imul, 1) := by decide +kernel
theorem d_X_place_20 : decode prog_9_method_17_code 20 = .ok (.iload_n 1, 1) := by decide +kernel
theorem d_X_place_21 : decode prog_9_method_17_code 21 = .ok (.bipush 16, 2) := by decide +kernel
theorem d_X_place_23 : decode prog_9_method_17_code 23 = .ok (.idiv, 1) := by decide +kernel
theorem d_X_place_24 : decode prog_9_method_17_code 24 = .ok (.iadd, 1) := by decide +kernel
theorem d_X_place_25 : decode prog_9_method_17_code 25 = .ok (.istore_n 3, 1) := by decide +kernel
theorem d_X_place_26 : decode prog_9_method_17_code 26 = .ok (.aload_n 0, 1) := by decide +kernel
theorem d_X_place_27 : decode prog_9_method_17_code 27 = .ok (.getfield 13, 3) := by decide +kernel
theorem d_X_place_30 : decode prog_9_method_17_code 30 = .ok (.iload_n 3, 1) := by decide +kernel
theorem d_X_place_31 : decode prog_9_method_17_code 31 = .ok (.iaload, 1) := by decide +kernel
theorem d_X_place_32 : decode prog_9_method_17_code 32 = .ok (.ifCond .le 44, 3) := by decide +kernel
theorem d_X_place_35 : decode prog_9_method_17_code 35 = .ok (.aload_n 0, 1) := by decide +kernel
theorem d_X_place_36 : decode prog_9_method_17_code 36 = .ok (.getfield 16, 3) := by decide +kernel
theorem d_X_place_39 : decode prog_9_method_17_code 39 = .ok (.iload_n 3, 1) := by decide +kernel
theorem d_X_place_40 : decode prog_9_method_17_code 40 = .ok (.iaload, 1) := by decide +kernel
theorem d_X_place_41 : decode prog_9_method_17_code 41 = .ok (.iconst 4, 1) := by decide +kernel
theorem d_X_place_42 : decode prog_9_method_17_code 42 = .ok (.iand, 1) := by decide +kernel
theorem d_X_place_43 : decode prog_9_method_17_code 43 = .ok (.ifCond .eq 33, 3) := by decide +kernel
theorem d_X_place_46 : decode prog_9_method_17_code 46 = .ok (.aload_n 0, 1) := by decide +kernel
theorem d_X_place_47 : decode prog_9_method_17_code 47 = .ok (.getfield 16, 3) := by decide +kernel
theorem d_X_place_50 : decode prog_9_method_17_code 50 = .ok (.iload_n 3, 1) := by decide +kernel
theorem d_X_place_51 : decode prog_9_method_17_code 51 = .ok (.iaload, 1) := by decide +kernel
theorem d_X_place_52 : decode prog_9_method_17_code 52 = .ok (.iload_n 2, 1) := by decide +kernel
theorem d_X_place_53 : decode prog_9_method_17_code 53 = .ok (.iand, 1) := by decide +kernel
theorem d_X_place_54 : decode prog_9_method_17_code 54 = .ok (.ifCond .eq 22, 3) := by decide +kernel
theorem d_X_place_57 : decode prog_9_method_17_code 57 = .ok (.bipush 16, 2) := by decide +kernel
theorem d_X_place_59 : decode prog_9_method_17_code 59 = .ok (.aload_n 0, 1) := by decide +kernel
theorem d_X_place_60 : decode prog_9_method_17_code 60 = .ok (.getfield 13, 3) := by decide +kernel
theorem d_X_place_63 : decode prog_9_method_17_code 63 = .ok (.iload_n 3, 1) := by decide +kernel
theorem d_X_place_64 : decode prog_9_method_17_code 64 = .ok (.iaload, 1) := by decide +kernel
theorem d_X_place_65 : decode prog_9_method_17_code 65 = .ok (.iconst 1, 1) := by decide +kernel
theorem d_X_place_66 : decode prog_9_method_17_code 66 = .ok (.isub, 1) := by decide +kernel
theorem d_X_place_67 : decode prog_9_method_17_code 67 = .ok (.imul, 1) := by decide +kernel
theorem d_X_place_68 : decode prog_9_method_17_code 68 = .ok (.iload_n 1, 1) := by decide +kernel
theorem d_X_place_69 : decode prog_9_method_17_code 69 = .ok (.bipush 16, 2) := by decide +kernel
theorem d_X_place_71 : decode prog_9_method_17_code 71 = .ok (.irem, 1) := by decide +kernel
theorem d_X_place_72 : decode prog_9_method_17_code 72 = .ok (.iadd, 1) := by decide +kernel
theorem d_X_place_73 : decode prog_9_method_17_code 73 = .ok (.goto 4, 3) := by decide +kernel
theorem d_X_place_76 : decode prog_9_method_17_code 76 = .ok (.iconst (-1), 1) := by decide +kernel
theorem d_X_place_77 : decode prog_9_method_17_code 77 = .ok (.ireturn, 1) := by decide +kernel
def k_X_place_0 (G : oG) (Post : oP) : oK := o_iload 1 <| o_iflt (o_iconst (-1) <| o_iret Post) (o_iload 1 <| o_iconst 255 <| o_icmple (o_jmp G m_X_place Post 13 [0, 1, 2]) (o_iconst (-1) <| o_iret Post))
theorem s_X_place_0 {G : oG} {Post : oP} : oS G m_X_place Post 0 (k_X_place_0 G Post) := by
  unfold k_X_place_0
  refine so_iload_n d_X_place_0 rfl ?_
  refine so_iflt d_X_place_1 (tgt := 11) (by decide) ?_ ?_
  · refine so_iconst d_X_place_11 rfl ?_
    exact so_iret d_X_place_12 rfl
  · refine so_iload_n d_X_place_4 rfl ?_
    refine so_sipush d_X_place_5 rfl ?_
    refine so_icmple d_X_place_8 (tgt := 13) (by decide) ?_ ?_
    · exact so_jmp
    · refine so_iconst d_X_place_11 rfl ?_
      exact so_iret d_X_place_12 rfl
def k_X_place_13 (G : oG) (Post : oP) : oK := o_iconst 16 <| o_aload 0 <| o_getf 7 19 <| o_imul <| o_iload 1 <| o_iconst 16 <| o_idiv <| o_iadd <| o_istore 3 <| o_aload 0 <| o_getf 7 1 <| o_iload 3 <| o_iald G <| o_ifle (o_iconst (-1) <| o_iret Post) (o_aload 0 <| o_getf 7 2 <| o_iload 3 <| o_iald G <| o_iconst 4 <| o_iand <| o_ifeq (o_iconst (-1) <| o_iret Post) (o_aload 0 <| o_getf 7 2 <| o_iload 3 <| o_iald G <| o_iload 2 <| o_iand <| o_ifeq (o_iconst (-1) <| o_iret Post) (o_iconst 16 <| o_aload 0 <| o_getf 7 1 <| o_iload 3 <| o_iald G <| o_iconst 1 <| o_isub <| o_imul <| o_iload 1 <| o_iconst 16 <| o_irem <| o_iadd <| o_iret Post)))
theorem s_X_place_13 {G : oG} {Post : oP} : oS G m_X_place Post 13 (k_X_place_13 G Post) := by
  unfold k_X_place_13
  refine so_bipush d_X_place_13 rfl ?_
  refine so_aload_n d_X_place_15 rfl ?_
  refine so_getf cl_7 (k := 19) (by decide) w_581 d_X_place_16 ?_
  refine so_imul d_X_place_19 ?_
  refine so_iload_n d_X_place_20 rfl ?_
  refine so_bipush d_X_place_21 rfl ?_
  refine so_idiv d_X_place_23 ?_
  refine so_iadd d_X_place_24 ?_
  refine so_istore_n d_X_place_25 rfl (by decide) ?_
  refine so_aload_n d_X_place_26 rfl ?_
  refine so_getf cl_7 (k := 1) (by decide) w_563 d_X_place_27 ?_
  refine so_iload_n d_X_place_30 rfl ?_
  refine so_iald d_X_place_31 ?_
  refine so_ifle d_X_place_32 (tgt := 76) (by decide) ?_ ?_
  · refine so_iconst d_X_place_76 rfl ?_
    exact so_iret d_X_place_77 rfl
  · refine so_aload_n d_X_place_35 rfl ?_
    refine so_getf cl_7 (k := 2) (by decide) w_564 d_X_place_36 ?_
    refine so_iload_n d_X_place_39 rfl ?_
    refine so_iald d_X_place_40 ?_
    refine so_iconst d_X_place_41 rfl ?_
    refine so_iand d_X_place_42 ?_
    refine so_ifeq d_X_place_43 (tgt := 76) (by decide) ?_ ?_
    · refine so_iconst d_X_place_76 rfl ?_
      exact so_iret d_X_place_77 rfl
    · refine so_aload_n d_X_place_46 rfl ?_
      refine so_getf cl_7 (k := 2) (by decide) w_564 d_X_place_47 ?_
      refine so_iload_n d_X_place_50 rfl ?_
      refine so_iald d_X_place_51 ?_
      refine so_iload_n d_X_place_52 rfl ?_
      refine so_iand d_X_place_53 ?_
      refine so_ifeq d_X_place_54 (tgt := 76) (by decide) ?_ ?_
      · refine so_iconst d_X_place_76 rfl ?_
        exact so_iret d_X_place_77 rfl
      · refine so_bipush d_X_place_57 rfl ?_
        refine so_aload_n d_X_place_59 rfl ?_
        refine so_getf cl_7 (k := 1) (by decide) w_563 d_X_place_60 ?_
        refine so_iload_n d_X_place_63 rfl ?_
        refine so_iald d_X_place_64 ?_
        refine so_iconst d_X_place_65 rfl ?_
        refine so_isub d_X_place_66 ?_
        refine so_imul d_X_place_67 ?_
        refine so_iload_n d_X_place_68 rfl ?_
        refine so_bipush d_X_place_69 rfl ?_
        refine so_irem d_X_place_71 ?_
        refine so_iadd d_X_place_72 ?_
        refine so_goto d_X_place_73 (tgt := 77) (by decide) ?_
        exact so_iret d_X_place_77 rfl
theorem d_X_string_0 : decode prog_9_method_20_code 0 = .ok (.iconst 0, 1) := by decide +kernel
theorem d_X_string_1 : decode prog_9_method_20_code 1 = .ok (.istore_n 3, 1) := by decide +kernel
theorem d_X_string_2 : decode prog_9_method_20_code 2 = .ok (.iload_n 3, 1) := by decide +kernel
theorem d_X_string_3 : decode prog_9_method_20_code 3 = .ok (.bipush 8, 2) := by decide +kernel
theorem d_X_string_5 : decode prog_9_method_20_code 5 = .ok (.if_icmp .ge 74, 3) := by decide +kernel
theorem d_X_string_8 : decode prog_9_method_20_code 8 = .ok (.iload_n 2, 1) := by decide +kernel
theorem d_X_string_9 : decode prog_9_method_20_code 9 = .ok (.sipush 255, 3) := by decide +kernel
theorem d_X_string_12 : decode prog_9_method_20_code 12 = .ok (.if_icmp .le 7, 3) := by decide +kernel
theorem d_X_string_15 : decode prog_9_method_20_code 15 = .ok (.iconst (-1), 1) := by decide +kernel
theorem d_X_string_16 : decode prog_9_method_20_code 16 = .ok (.goto 11, 3) := by decide +kernel
theorem d_X_string_19 : decode prog_9_method_20_code 19 = .ok (.aload_n 0, 1) := by decide +kernel
theorem d_X_string_20 : decode prog_9_method_20_code 20 = .ok (.iload_n 2, 1) := by decide +kernel
theorem d_X_string_21 : decode prog_9_method_20_code 21 = .ok (.iload_n 3, 1) := by decide +kernel
theorem d_X_string_22 : decode prog_9_method_20_code 22 = .ok (.iadd, 1) := by decide +kernel
theorem d_X_string_23 : decode prog_9_method_20_code 23 = .ok (.iconst 1, 1) := by decide +kernel
theorem d_X_string_24 : decode prog_9_method_20_code 24 = .ok (.invokevirtual 159, 3) := by decide +kernel
theorem d_X_string_27 : decode prog_9_method_20_code 27 = .ok (.istore 4, 2) := by decide +kernel
theorem d_X_string_29 : decode prog_9_method_20_code 29 = .ok (.iload 4, 2) := by decide +kernel
theorem d_X_string_31 : decode prog_9_method_20_code 31 = .ok (.ifCond .ge 5, 3) := by decide +kernel
theorem d_X_string_34 : decode prog_9_method_20_code 34 = .ok (.iconst 0, 1) := by decide +kernel
theorem d_X_string_35 : decode prog_9_method_20_code 35 = .ok (.ireturn, 1) := by decide +kernel
theorem d_X_string_36 : decode prog_9_method_20_code 36 = .ok (.aload_n 0, 1) := by decide +kernel
theorem d_X_string_37 : decode prog_9_method_20_code 37 = .ok (.getfield 71, 3) := by decide +kernel
theorem d_X_string_40 : decode prog_9_method_20_code 40 = .ok (.bipush 8, 2) := by decide +kernel
theorem d_X_string_42 : decode prog_9_method_20_code 42 = .ok (.iload_n 1, 1) := by decide +kernel
theorem d_X_string_43 : decode prog_9_method_20_code 43 = .ok (.imul, 1) := by decide +kernel
theorem d_X_string_44 : decode prog_9_method_20_code 44 = .ok (.iload_n 3, 1) := by decide +kernel
theorem d_X_string_45 : decode prog_9_method_20_code 45 = .ok (.iadd, 1) := by decide +kernel
theorem d_X_string_46 : decode prog_9_method_20_code 46 = .ok (.aload_n 0, 1) := by decide +kernel
theorem d_X_string_47 : decode prog_9_method_20_code 47 = .ok (.getfield 7, 3) := by decide +kernel
theorem d_X_string_50 : decode prog_9_method_20_code 50 = .ok (.iload 4, 2) := by decide +kernel
theorem d_X_string_52 : decode prog_9_method_20_code 52 = .ok (.iaload, 1) := by decide +kernel
theorem d_X_string_53 : decode prog_9_method_20_code 53 = .ok (.iastore, 1) := by decide +kernel
theorem d_X_string_54 : decode prog_9_method_20_code 54 = .ok (.aload_n 0, 1) := by decide +kernel
theorem d_X_string_55 : decode prog_9_method_20_code 55 = .ok (.getfield 7, 3) := by decide +kernel
theorem d_X_string_58 : decode prog_9_method_20_code 58 = .ok (.iload 4, 2) := by decide +kernel
theorem d_X_string_60 : decode prog_9_method_20_code 60 = .ok (.iaload, 1) := by decide +kernel
theorem d_X_string_61 : decode prog_9_method_20_code 61 = .ok (.ifCond .ne 12, 3) := by decide +kernel
theorem d_X_string_64 : decode prog_9_method_20_code 64 = .ok (.aload_n 0, 1) := by decide +kernel
theorem d_X_string_65 : decode prog_9_method_20_code 65 = .ok (.getfield 74, 3) := by decide +kernel
theorem d_X_string_68 : decode prog_9_method_20_code 68 = .ok (.iload_n 1, 1) := by decide +kernel
theorem d_X_string_69 : decode prog_9_method_20_code 69 = .ok (.iload_n 3, 1) := by decide +kernel
theorem d_X_string_70 : decode prog_9_method_20_code 70 = .ok (.iastore, 1) := by decide +kernel
theorem d_X_string_71 : decode prog_9_method_20_code 71 = .ok (.iconst 1, 1) := by decide +kernel
theorem d_X_string_72 : decode prog_9_method_20_code 72 = .ok (.ireturn, 1) := by decide +kernel
theorem d_X_string_73 : decode prog_9_method_20_code 73 = .ok (.iinc 3 1, 3) := by decide +kernel
theorem d_X_string_76 : decode prog_9_method_20_code 76 = .ok (.goto (-74), 3) := by decide +kernel
theorem d_X_string_79 : decode prog_9_method_20_code 79 = .ok (.iconst 0, 1) := by decide +kernel
theorem d_X_string_80 : decode prog_9_method_20_code 80 = .ok (.ireturn, 1) := by decide +kernel
def k_X_string_0 (G : oG) (Post : oP) : oK := o_iconst 0 <| o_istore 3 <| o_jmp G m_X_string Post 2 [0, 1, 2, 3]
theorem s_X_string_0 {G : oG} {Post : oP} : oS G m_X_string Post 0 (k_X_string_0 G Post) := by
  unfold k_X_string_0
  refine so_iconst d_X_string_0 rfl ?_
  refine so_istore_n d_X_string_1 rfl (by decide) ?_
  exact so_jmp
def k_X_string_2 (G : oG) (Post : oP) : oK := o_iload 3 <| o_iconst 8 <| o_icmpge (o_iconst 0 <| o_zret Post) (o_iload 2 <| o_iconst 255 <| o_icmple (o_aload 0 <| o_iload 2 <| o_iload 3 <| o_iadd <| o_iconst 1 <| o_callV G 7 m_X_place 2 <| o_jmp G m_X_string Post 27 [0, 1, 2, 3]) (o_iconst (-1) <| o_jmp G m_X_string Post 27 [0, 1, 2, 3]))
theorem s_X_string_2 {G : oG} {Post : oP} : oS G m_X_string Post 2 (k_X_string_2 G Post) := by
  unfold k_X_string_2
  refine so_iload_n d_X_string_2 rfl ?_
  refine so_bipush d_X_string_3 rfl ?_
  refine so_icmpge d_X_string_5 (tgt := 79) (by decide) ?_ ?_
  · refine so_iconst d_X_string_79 rfl ?_
    exact so_zret d_X_string_80 rfl
  · refine so_iload_n d_X_string_8 rfl ?_
    refine so_sipush d_X_string_9 rfl ?_
    refine so_icmple d_X_string_12 (tgt := 19) (by decide) ?_ ?_
    · refine so_aload_n d_X_string_19 rfl ?_
      refine so_iload_n d_X_string_20 rfl ?_
      refine so_iload_n d_X_string_21 rfl ?_
      refine so_iadd d_X_string_22 ?_
      refine so_iconst d_X_string_23 rfl ?_
      refine so_callV cl_7 f_X_place w_707 w_33 w_705 (by decide) (by decide) d_X_string_24 ?_
      exact so_jmp
    · refine so_iconst d_X_string_15 rfl ?_
      refine so_goto d_X_string_16 (tgt := 27) (by decide) ?_
      exact so_jmp
def k_X_string_27 (G : oG) (Post : oP) : oK := o_istore 4 <| o_iload 4 <| o_ifge (o_jmp G m_X_string Post 36 [0, 1, 2, 3, 4]) (o_iconst 0 <| o_zret Post)
theorem s_X_string_27 {G : oG} {Post : oP} : oS G m_X_string Post 27 (k_X_string_27 G Post) := by
  unfold k_X_string_27
  refine so_istore d_X_string_27 (by decide) ?_
  refine so_iload d_X_string_29 ?_
  refine so_ifge d_X_string_31 (tgt := 36) (by decide) ?_ ?_
  · exact so_jmp
  · refine so_iconst d_X_string_34 rfl ?_
    exact so_zret d_X_string_35 rfl
def k_X_string_36 (G : oG) (Post : oP) : oK := o_aload 0 <| o_getf 7 26 <| o_iconst 8 <| o_iload 1 <| o_imul <| o_iload 3 <| o_iadd <| o_aload 0 <| o_getf 7 0 <| o_iload 4 <| o_iald G <| o_iast <| o_aload 0 <| o_getf 7 0 <| o_iload 4 <| o_iald G <| o_ifne (o_iinc 3 1 <| o_jmp G m_X_string Post 2 [0, 1, 2, 3]) (o_aload 0 <| o_getf 7 27 <| o_iload 1 <| o_iload 3 <| o_iast <| o_iconst 1 <| o_zret Post)
theorem s_X_string_36 {G : oG} {Post : oP} : oS G m_X_string Post 36 (k_X_string_36 G Post) := by
  unfold k_X_string_36
  refine so_aload_n d_X_string_36 rfl ?_
  refine so_getf cl_7 (k := 26) (by decide) w_588 d_X_string_37 ?_
  refine so_bipush d_X_string_40 rfl ?_
  refine so_iload_n d_X_string_42 rfl ?_
  refine so_imul d_X_string_43 ?_
  refine so_iload_n d_X_string_44 rfl ?_
  refine so_iadd d_X_string_45 ?_
  refine so_aload_n d_X_string_46 rfl ?_
  refine so_getf cl_7 (k := 0) (by decide) w_562 d_X_string_47 ?_
  refine so_iload d_X_string_50 ?_
  refine so_iald d_X_string_52 ?_
  refine so_iast d_X_string_53 ?_
  refine so_aload_n d_X_string_54 rfl ?_
  refine so_getf cl_7 (k := 0) (by decide) w_562 d_X_string_55 ?_
  refine so_iload d_X_string_58 ?_
  refine so_iald d_X_string_60 ?_
  refine so_ifne d_X_string_61 (tgt := 73) (by decide) ?_ ?_
  · refine so_iinc d_X_string_73 rfl (by decide) ?_
    refine so_goto d_X_string_76 (tgt := 2) (by decide) ?_
    exact so_jmp
  · refine so_aload_n d_X_string_64 rfl ?_
    refine so_getf cl_7 (k := 27) (by decide) w_589 d_X_string_65 ?_
    refine so_iload_n d_X_string_68 rfl ?_
    refine so_iload_n d_X_string_69 rfl ?_
    refine so_iast d_X_string_70 ?_
    refine so_iconst d_X_string_71 rfl ?_
    exact so_zret d_X_string_72 rfl
theorem d_X_isName_0 : decode prog_9_method_21_code 0 = .ok (.aload_n 0, 1) := by decide +kernel
theorem d_X_isName_1 : decode prog_9_method_21_code 1 = .ok (.getfield 32, 3) := by decide +kernel
theorem d_X_isName_4 : decode prog_9_method_21_code 4 = .ok (.iload_n 1, 1) := by decide +kernel
theorem d_X_isName_5 : decode prog_9_method_21_code 5 = .ok (.iaload, 1) := by decide +kernel
theorem d_X_isName_6 : decode prog_9_method_21_code 6 = .ok (.ifCond .le 22, 3) := by decide +kernel
theorem d_X_isName_9 : decode prog_9_method_21_code 9 = .ok (.aload_n 0, 1) := by decide +kernel
theorem d_X_isName_10 : decode prog_9_method_21_code 10 = .ok (.getfield 32, 3) := by decide +kernel
theorem d_X_isName_13 : decode prog_9_method_21_code 13 = .ok (.iload_n 1, 1) := by decide +kernel
theorem d_X_isName_14 : decode prog_9_method_21_code 14 = .ok (.iaload, 1) := by decide +kernel
theorem d_X_isName_15 : decode prog_9_method_21_code 15 = .ok (.aload_n 0, 1) := by decide +kernel
theorem d_X_isName_16 : decode prog_9_method_21_code 16 = .ok (.getfield 74, 3) := by decide +kernel
theorem d_X_isName_19 : decode prog_9_method_21_code 19 = .ok (.iload_n 2, 1) := by decide +kernel
theorem d_X_isName_20 : decode prog_9_method_21_code 20 = .ok (.iaload, 1) := by decide +kernel
theorem d_X_isName_21 : decode prog_9_method_21_code 21 = .ok (.if_icmp .ne 7, 3) := by decide +kernel
theorem d_X_isName_24 : decode prog_9_method_21_code 24 = .ok (.iconst 1, 1) := by decide +kernel
theorem d_X_isName_25 : decode prog_9_method_21_code 25 = .ok (.goto 4, 3) := by decide +kernel
theorem d_X_isName_28 : decode prog_9_method_21_code 28 = .ok (.iconst 0, 1) := by decide +kernel
theorem d_X_isName_29 : decode prog_9_method_21_code 29 = .ok (.istore_n 3, 1) := by decide +kernel
theorem d_X_isName_30 : decode prog_9_method_21_code 30 = .ok (.iconst 0, 1) := by decide +kernel
theorem d_X_isName_31 : decode prog_9_method_21_code 31 = .ok (.istore 4, 2) := by decide +kernel
theorem d_X_isName_33 : decode prog_9_method_21_code 33 = .ok (.iload 4, 2) := by decide +kernel
theorem d_X_isName_35 : decode prog_9_method_21_code 35 = .ok (.aload_n 0, 1) := by decide +kernel
theorem d_X_isName_36 : decode prog_9_method_21_code 36 = .ok (.getfield 74, 3) := by decide +kernel
theorem d_X_isName_39 : decode prog_9_method_21_code 39 = .ok (.iload_n 2, 1) := by decide +kernel
theorem d_X_isName_40 : decode prog_9_method_21_code 40 = .ok (.iaload, 1) := by decide +kernel
theorem d_X_isName_41 : decode prog_9_method_21_code 41 = .ok (.if_icmp .ge 46, 3) := by decide +kernel
theorem d_X_isName_44 : decode prog_9_method_21_code 44 = .ok (.iload_n 3, 1) := by decide +kernel
theorem d_X_isName_45 : decode prog_9_method_21_code 45 = .ok (.ifCond .eq 42, 3) := by decide +kernel
theorem d_X_isName_48 : decode prog_9_method_21_code 48 = .ok (.aload_n 0, 1) := by decide +kernel
theorem d_X_isName_49 : decode prog_9_method_21_code 49 = .ok (.getfield 35, 3) := by decide +kernel
theorem d_X_isName_52 : decode prog_9_method_21_code 52 = .ok (.bipush 8, 2) := by decide +kernel
theorem d_X_isName_54 : decode prog_9_method_21_code 54 = .ok (.iload_n 1, 1) := by decide +kernel
theorem d_X_isName_55 : decode prog_9_method_21_code 55 = .ok (.imul, 1) := by decide +kernel
theorem d_X_isName_56 : decode prog_9_method_21_code 56 = .ok (.iload 4, 2) := by decide +kernel
theorem d_X_isName_58 : decode prog_9_method_21_code 58 = .ok (.iadd, 1) := by decide +kernel
theorem d_X_isName_59 : decode prog_9_method_21_code 59 = .ok (.iaload, 1) := by decide +kernel
theorem d_X_isName_60 : decode prog_9_method_21_code 60 = .ok (.aload_n 0, 1) := by decide +kernel
theorem d_X_isName_61 : decode prog_9_method_21_code 61 = .ok (.getfield 71, 3) := by decide +kernel
theorem d_X_isName_64 : decode prog_9_method_21_code 64 = .ok (.bipush 8, 2) := by decide +kernel
theorem d_X_isName_66 : decode prog_9_method_21_code 66 = .ok (.iload_n 2, 1) := by decide +kernel
theorem d_X_isName_67 : decode prog_9_method_21_code 67 = .ok (.imul, 1) := by decide +kernel
theorem d_X_isName_68 : decode prog_9_method_21_code 68 = .ok (.iload 4, 2) := by decide +kernel
theorem d_X_isName_70 : decode prog_9_method_21_code 70 = .ok (.iadd, 1) := by decide +kernel
theorem d_X_isName_71 : decode prog_9_method_21_code 71 = .ok (.iaload, 1) := by decide +kernel
theorem d_X_isName_72 : decode prog_9_method_21_code 72 = .ok (.if_icmp .ne 7, 3) := by decide +kernel
theorem d_X_isName_75 : decode prog_9_method_21_code 75 = .ok (.iconst 1, 1) := by decide +kernel
theorem d_X_isName_76 : decode prog_9_method_21_code 76 = .ok (.goto 4, 3) := by decide +kernel
theorem d_X_isName_79 : decode prog_9_method_21_code 79 = .ok (.iconst 0, 1) := by decide +kernel
theorem d_X_isName_80 : decode prog_9_method_21_code 80 = .ok (.istore_n 3, 1) := by decide +kernel
theorem d_X_isName_81 : decode prog_9_method_21_code 81 = .ok (.iinc 4 1, 3) := by decide +kernel
theorem d_X_isName_84 : decode prog_9_method_21_code 84 = .ok (.goto (-51), 3) := by decide +kernel
theorem d_X_isName_87 : decode prog_9_method_21_code 87 = .ok (.iload_n 3, 1) := by decide +kernel
theorem d_X_isName_88 : decode prog_9_method_21_code 88 = .ok (.ireturn, 1) := by decide +kernel
def k_X_isName_0 (G : oG) (Post : oP) : oK := o_aload 0 <| o_getf 7 8 <| o_iload 1 <| o_iald G <| o_ifle (o_iconst 0 <| o_istore 3 <| o_iconst 0 <| o_istore 4 <| o_jmp G m_X_isName Post 33 [0, 1, 2, 3, 4]) (o_aload 0 <| o_getf 7 8 <| o_iload 1 <| o_iald G <| o_aload 0 <| o_getf 7 27 <| o_iload 2 <| o_iald G <| o_icmpne (o_iconst 0 <| o_istore 3 <| o_iconst 0 <| o_istore 4 <| o_jmp G m_X_isName Post 33 [0, 1, 2, 3, 4]) (o_iconst 1 <| o_istore 3 <| o_iconst 0 <| o_istore 4 <| o_jmp G m_X_isName Post 33 [0, 1, 2, 3, 4]))
theorem s_X_isName_0 {G : oG} {Post : oP} : oS G m_X_isName Post 0 (k_X_isName_0 G Post) := by
  unfold k_X_isName_0
  refine so_aload_n d_X_isName_0 rfl ?_
  refine so_getf cl_7 (k := 8) (by decide) w_570 d_X_isName_1 ?_
  refine so_iload_n d_X_isName_4 rfl ?_
  refine so_iald d_X_isName_5 ?_
  refine so_ifle d_X_isName_6 (tgt := 28) (by decide) ?_ ?_
  · refine so_iconst d_X_isName_28 rfl ?_
    refine so_istore_n d_X_isName_29 rfl (by decide) ?_
    refine so_iconst d_X_isName_30 rfl ?_
    refine so_istore d_X_isName_31 (by decide) ?_
    exact so_jmp
  · refine so_aload_n d_X_isName_9 rfl ?_
    refine so_getf cl_7 (k := 8) (by decide) w_570 d_X_isName_10 ?_
    refine so_iload_n d_X_isName_13 rfl ?_
    refine so_iald d_X_isName_14 ?_
    refine so_aload_n d_X_isName_15 rfl ?_
    refine so_getf cl_7 (k := 27) (by decide) w_589 d_X_isName_16 ?_
    refine so_iload_n d_X_isName_19 rfl ?_
    refine so_iald d_X_isName_20 ?_
    refine so_icmpne d_X_isName_21 (tgt := 28) (by decide) ?_ ?_
    · refine so_iconst d_X_isName_28 rfl ?_
      refine so_istore_n d_X_isName_29 rfl (by decide) ?_
      refine so_iconst d_X_isName_30 rfl ?_
      refine so_istore d_X_isName_31 (by decide) ?_
      exact so_jmp
    · refine so_iconst d_X_isName_24 rfl ?_
      refine so_goto d_X_isName_25 (tgt := 29) (by decide) ?_
      refine so_istore_n d_X_isName_29 rfl (by decide) ?_
      refine so_iconst d_X_isName_30 rfl ?_
      refine so_istore d_X_isName_31 (by decide) ?_
      exact so_jmp
def k_X_isName_33 (G : oG) (Post : oP) : oK := o_iload 4 <| o_aload 0 <| o_getf 7 27 <| o_iload 2 <| o_iald G <| o_icmpge (o_iload 3 <| o_zret Post) (o_iload 3 <| o_ifeq (o_iload 3 <| o_zret Post) (o_aload 0 <| o_getf 7 9 <| o_iconst 8 <| o_iload 1 <| o_imul <| o_iload 4 <| o_iadd <| o_iald G <| o_aload 0 <| o_getf 7 26 <| o_iconst 8 <| o_iload 2 <| o_imul <| o_iload 4 <| o_iadd <| o_iald G <| o_icmpne (o_iconst 0 <| o_istore 3 <| o_iinc 4 1 <| o_jmp G m_X_isName Post 33 [0, 1, 2, 3, 4]) (o_iconst 1 <| o_istore 3 <| o_iinc 4 1 <| o_jmp G m_X_isName Post 33 [0, 1, 2, 3, 4])))
theorem s_X_isName_33 {G : oG} {Post : oP} : oS G m_X_isName Post 33 (k_X_isName_33 G Post) := by
  unfold k_X_isName_33
  refine so_iload d_X_isName_33 ?_
  refine so_aload_n d_X_isName_35 rfl ?_
  refine so_getf cl_7 (k := 27) (by decide) w_589 d_X_isName_36 ?_
  refine so_iload_n d_X_isName_39 rfl ?_
  refine so_iald d_X_isName_40 ?_
  refine so_icmpge d_X_isName_41 (tgt := 87) (by decide) ?_ ?_
  · refine so_iload_n d_X_isName_87 rfl ?_
    exact so_zret d_X_isName_88 rfl
  · refine so_iload_n d_X_isName_44 rfl ?_
    refine so_ifeq d_X_isName_45 (tgt := 87) (by decide) ?_ ?_
    · refine so_iload_n d_X_isName_87 rfl ?_
      exact so_zret d_X_isName_88 rfl
    · refine so_aload_n d_X_isName_48 rfl ?_
      refine so_getf cl_7 (k := 9) (by decide) w_571 d_X_isName_49 ?_
      refine so_bipush d_X_isName_52 rfl ?_
      refine so_iload_n d_X_isName_54 rfl ?_
      refine so_imul d_X_isName_55 ?_
      refine so_iload d_X_isName_56 ?_
      refine so_iadd d_X_isName_58 ?_
      refine so_iald d_X_isName_59 ?_
      refine so_aload_n d_X_isName_60 rfl ?_
      refine so_getf cl_7 (k := 26) (by decide) w_588 d_X_isName_61 ?_
      refine so_bipush d_X_isName_64 rfl ?_
      refine so_iload_n d_X_isName_66 rfl ?_
      refine so_imul d_X_isName_67 ?_
      refine so_iload d_X_isName_68 ?_
      refine so_iadd d_X_isName_70 ?_
      refine so_iald d_X_isName_71 ?_
      refine so_icmpne d_X_isName_72 (tgt := 79) (by decide) ?_ ?_
      · refine so_iconst d_X_isName_79 rfl ?_
        refine so_istore_n d_X_isName_80 rfl (by decide) ?_
        refine so_iinc d_X_isName_81 rfl (by decide) ?_
        refine so_goto d_X_isName_84 (tgt := 33) (by decide) ?_
        exact so_jmp
      · refine so_iconst d_X_isName_75 rfl ?_
        refine so_goto d_X_isName_76 (tgt := 80) (by decide) ?_
        refine so_istore_n d_X_isName_80 rfl (by decide) ?_
        refine so_iinc d_X_isName_81 rfl (by decide) ?_
        refine so_goto d_X_isName_84 (tgt := 33) (by decide) ?_
        exact so_jmp
theorem d_X_name_0 : decode prog_9_method_22_code 0 = .ok (.iconst 0, 1) := by decide +kernel
theorem d_X_name_1 : decode prog_9_method_22_code 1 = .ok (.istore_n 2, 1) := by decide +kernel
theorem d_X_name_2 : decode prog_9_method_22_code 2 = .ok (.iload_n 2, 1) := by decide +kernel
theorem d_X_name_3 : decode prog_9_method_22_code 3 = .ok (.bipush 8, 2) := by decide +kernel
theorem d_X_name_5 : decode prog_9_method_22_code 5 = .ok (.if_icmp .ge 20, 3) := by decide +kernel
theorem d_X_name_8 : decode prog_9_method_22_code 8 = .ok (.aload_n 0, 1) := by decide +kernel
theorem d_X_name_9 : decode prog_9_method_22_code 9 = .ok (.iload_n 2, 1) := by decide +kernel
theorem d_X_name_10 : decode prog_9_method_22_code 10 = .ok (.iload_n 1, 1) := by decide +kernel
theorem d_X_name_11 : decode prog_9_method_22_code 11 = .ok (.invokevirtual 165, 3) := by decide +kernel
theorem d_X_name_14 : decode prog_9_method_22_code 14 = .ok (.ifCond .eq 5, 3) := by decide +kernel
theorem d_X_name_17 : decode prog_9_method_22_code 17 = .ok (.iload_n 2, 1) := by decide +kernel
theorem d_X_name_18 : decode prog_9_method_22_code 18 = .ok (.ireturn, 1) := by decide +kernel
theorem d_X_name_19 : decode prog_9_method_22_code 19 = .ok (.iinc 2 1, 3) := by decide +kernel
theorem d_X_name_22 : decode prog_9_method_22_code 22 = .ok (.goto (-20), 3) := by decide +kernel
theorem d_X_name_25 : decode prog_9_method_22_code 25 = .ok (.iconst (-1), 1) := by decide +kernel
theorem d_X_name_26 : decode prog_9_method_22_code 26 = .ok (.ireturn, 1) := by decide +kernel
def k_X_name_0 (G : oG) (Post : oP) : oK := o_iconst 0 <| o_istore 2 <| o_jmp G m_X_name Post 2 [0, 1, 2]
theorem s_X_name_0 {G : oG} {Post : oP} : oS G m_X_name Post 0 (k_X_name_0 G Post) := by
  unfold k_X_name_0
  refine so_iconst d_X_name_0 rfl ?_
  refine so_istore_n d_X_name_1 rfl (by decide) ?_
  exact so_jmp
def k_X_name_2 (G : oG) (Post : oP) : oK := o_iload 2 <| o_iconst 8 <| o_icmpge (o_iconst (-1) <| o_iret Post) (o_aload 0 <| o_iload 2 <| o_iload 1 <| o_callV G 7 m_X_isName 2 <| o_jmp G m_X_name Post 14 [0, 1, 2])
theorem s_X_name_2 {G : oG} {Post : oP} : oS G m_X_name Post 2 (k_X_name_2 G Post) := by
  unfold k_X_name_2
  refine so_iload_n d_X_name_2 rfl ?_
  refine so_bipush d_X_name_3 rfl ?_
  refine so_icmpge d_X_name_5 (tgt := 25) (by decide) ?_ ?_
  · refine so_iconst d_X_name_25 rfl ?_
    exact so_iret d_X_name_26 rfl
  · refine so_aload_n d_X_name_8 rfl ?_
    refine so_iload_n d_X_name_9 rfl ?_
    refine so_iload_n d_X_name_10 rfl ?_
    refine so_callV cl_7 f_X_isName w_715 w_35 w_713 (by decide) (by decide) d_X_name_11 ?_
    exact so_jmp
def k_X_name_14 (G : oG) (Post : oP) : oK := o_ifeq (o_iinc 2 1 <| o_jmp G m_X_name Post 2 [0, 1, 2]) (o_iload 2 <| o_iret Post)
theorem s_X_name_14 {G : oG} {Post : oP} : oS G m_X_name Post 14 (k_X_name_14 G Post) := by
  unfold k_X_name_14
  refine so_ifeq d_X_name_14 (tgt := 19) (by decide) ?_ ?_
  · refine so_iinc d_X_name_19 rfl (by decide) ?_
    refine so_goto d_X_name_22 (tgt := 2) (by decide) ?_
    exact so_jmp
  · refine so_iload_n d_X_name_17 rfl ?_
    exact so_iret d_X_name_18 rfl
theorem d_X_freeDescriptor_0 : decode prog_9_method_27_code 0 = .ok (.iconst 0, 1) := by decide +kernel
theorem d_X_freeDescriptor_1 : decode prog_9_method_27_code 1 = .ok (.istore_n 1, 1) := by decide +kernel
theorem d_X_freeDescriptor_2 : decode prog_9_method_27_code 2 = .ok (.iload_n 1, 1) := by decide +kernel
theorem d_X_freeDescriptor_3 : decode prog_9_method_27_code 3 = .ok (.iconst 5, 1) := by decide +kernel
theorem d_X_freeDescriptor_4 : decode prog_9_method_27_code 4 = .ok (.if_icmp .ge 27, 3) := by decide +kernel
theorem d_X_freeDescriptor_7 : decode prog_9_method_27_code 7 = .ok (.aload_n 0, 1) := by decide +kernel
theorem d_X_freeDescriptor_8 : decode prog_9_method_27_code 8 = .ok (.getfield 62, 3) := by decide +kernel
theorem d_X_freeDescriptor_11 : decode prog_9_method_27_code 11 = .ok (.iconst 5, 1) := by decide +kernel
theorem d_X_freeDescriptor_12 : decode prog_9_method_27_code 12 = .ok (.aload_n 0, 1) := by decide +kernel
theorem d_X_freeDescriptor_13 : decode prog_9_method_27_code 13 = .ok (.getfield 92, 3) := by decide +kernel
theorem d_X_freeDescriptor_16 : decode prog_9_method_27_code 16 = .ok (.imul, 1) := by decide +kernel
theorem d_X_freeDescriptor_17 : decode prog_9_method_27_code 17 = .ok (.iload_n 1, 1) := by decide +kernel
theorem d_X_freeDescriptor_18 : decode prog_9_method_27_code 18 = .ok (.iadd, 1) := by decide +kernel
theorem d_X_freeDescriptor_19 : decode prog_9_method_27_code 19 = .ok (.iaload, 1) := by decide +kernel
theorem d_X_freeDescriptor_20 : decode prog_9_method_27_code 20 = .ok (.ifCond .ne 5, 3) := by decide +kernel
theorem d_X_freeDescriptor_23 : decode prog_9_method_27_code 23 = .ok (.iload_n 1, 1) := by decide +kernel
theorem d_X_freeDescriptor_24 : decode prog_9_method_27_code 24 = .ok (.ireturn, 1) := by decide +kernel
theorem d_X_freeDescriptor_25 : decode prog_9_method_27_code 25 = .ok (.iinc 1 1, 3) := by decide +kernel
theorem d_X_freeDescriptor_28 : decode prog_9_method_27_code 28 = .ok (.goto (-26), 3) := by decide +kernel
theorem d_X_freeDescriptor_31 : decode prog_9_method_27_code 31 = .ok (.iconst (-1), 1) := by decide +kernel
theorem d_X_freeDescriptor_32 : decode prog_9_method_27_code 32 = .ok (.ireturn, 1) := by decide +kernel
def k_X_freeDescriptor_0 (G : oG) (Post : oP) : oK := o_iconst 0 <| o_istore 1 <| o_jmp G m_X_freeDescriptor Post 2 [0, 1]
theorem s_X_freeDescriptor_0 {G : oG} {Post : oP} : oS G m_X_freeDescriptor Post 0 (k_X_freeDescriptor_0 G Post) := by
  unfold k_X_freeDescriptor_0
  refine so_iconst d_X_freeDescriptor_0 rfl ?_
  refine so_istore_n d_X_freeDescriptor_1 rfl (by decide) ?_
  exact so_jmp
def k_X_freeDescriptor_2 (G : oG) (Post : oP) : oK := o_iload 1 <| o_iconst 5 <| o_icmpge (o_iconst (-1) <| o_iret Post) (o_aload 0 <| o_getf 7 18 <| o_iconst 5 <| o_aload 0 <| o_getf 7 19 <| o_imul <| o_iload 1 <| o_iadd <| o_iald G <| o_ifne (o_iinc 1 1 <| o_jmp G m_X_freeDescriptor Post 2 [0, 1]) (o_iload 1 <| o_iret Post))
theorem s_X_freeDescriptor_2 {G : oG} {Post : oP} : oS G m_X_freeDescriptor Post 2 (k_X_freeDescriptor_2 G Post) := by
  unfold k_X_freeDescriptor_2
  refine so_iload_n d_X_freeDescriptor_2 rfl ?_
  refine so_iconst d_X_freeDescriptor_3 rfl ?_
  refine so_icmpge d_X_freeDescriptor_4 (tgt := 31) (by decide) ?_ ?_
  · refine so_iconst d_X_freeDescriptor_31 rfl ?_
    exact so_iret d_X_freeDescriptor_32 rfl
  · refine so_aload_n d_X_freeDescriptor_7 rfl ?_
    refine so_getf cl_7 (k := 18) (by decide) w_580 d_X_freeDescriptor_8 ?_
    refine so_iconst d_X_freeDescriptor_11 rfl ?_
    refine so_aload_n d_X_freeDescriptor_12 rfl ?_
    refine so_getf cl_7 (k := 19) (by decide) w_581 d_X_freeDescriptor_13 ?_
    refine so_imul d_X_freeDescriptor_16 ?_
    refine so_iload_n d_X_freeDescriptor_17 rfl ?_
    refine so_iadd d_X_freeDescriptor_18 ?_
    refine so_iald d_X_freeDescriptor_19 ?_
    refine so_ifne d_X_freeDescriptor_20 (tgt := 25) (by decide) ?_ ?_
    · refine so_iinc d_X_freeDescriptor_25 rfl (by decide) ?_
      refine so_goto d_X_freeDescriptor_28 (tgt := 2) (by decide) ?_
      exact so_jmp
    · refine so_iload_n d_X_freeDescriptor_23 rfl ?_
      exact so_iret d_X_freeDescriptor_24 rfl
theorem d_X_freeOpen_0 : decode prog_9_method_26_code 0 = .ok (.iconst 0, 1) := by decide +kernel
theorem d_X_freeOpen_1 : decode prog_9_method_26_code 1 = .ok (.istore_n 1, 1) := by decide +kernel
theorem d_X_freeOpen_2 : decode prog_9_method_26_code 2 = .ok (.iload_n 1, 1) := by decide +kernel
theorem d_X_freeOpen_3 : decode prog_9_method_26_code 3 = .ok (.bipush 8, 2) := by decide +kernel
theorem d_X_freeOpen_5 : decode prog_9_method_26_code 5 = .ok (.if_icmp .ge 20, 3) := by decide +kernel
theorem d_X_freeOpen_8 : decode prog_9_method_26_code 8 = .ok (.aload_n 0, 1) := by decide +kernel
theorem d_X_freeOpen_9 : decode prog_9_method_26_code 9 = .ok (.getfield 41, 3) := by decide +kernel
theorem d_X_freeOpen_12 : decode prog_9_method_26_code 12 = .ok (.iload_n 1, 1) := by decide +kernel
theorem d_X_freeOpen_13 : decode prog_9_method_26_code 13 = .ok (.iaload, 1) := by decide +kernel
theorem d_X_freeOpen_14 : decode prog_9_method_26_code 14 = .ok (.ifCond .ne 5, 3) := by decide +kernel
theorem d_X_freeOpen_17 : decode prog_9_method_26_code 17 = .ok (.iload_n 1, 1) := by decide +kernel
theorem d_X_freeOpen_18 : decode prog_9_method_26_code 18 = .ok (.ireturn, 1) := by decide +kernel
theorem d_X_freeOpen_19 : decode prog_9_method_26_code 19 = .ok (.iinc 1 1, 3) := by decide +kernel
theorem d_X_freeOpen_22 : decode prog_9_method_26_code 22 = .ok (.goto (-20), 3) := by decide +kernel
theorem d_X_freeOpen_25 : decode prog_9_method_26_code 25 = .ok (.iconst (-1), 1) := by decide +kernel
theorem d_X_freeOpen_26 : decode prog_9_method_26_code 26 = .ok (.ireturn, 1) := by decide +kernel
def k_X_freeOpen_0 (G : oG) (Post : oP) : oK := o_iconst 0 <| o_istore 1 <| o_jmp G m_X_freeOpen Post 2 [0, 1]
theorem s_X_freeOpen_0 {G : oG} {Post : oP} : oS G m_X_freeOpen Post 0 (k_X_freeOpen_0 G Post) := by
  unfold k_X_freeOpen_0
  refine so_iconst d_X_freeOpen_0 rfl ?_
  refine so_istore_n d_X_freeOpen_1 rfl (by decide) ?_
  exact so_jmp
def k_X_freeOpen_2 (G : oG) (Post : oP) : oK := o_iload 1 <| o_iconst 8 <| o_icmpge (o_iconst (-1) <| o_iret Post) (o_aload 0 <| o_getf 7 11 <| o_iload 1 <| o_iald G <| o_ifne (o_iinc 1 1 <| o_jmp G m_X_freeOpen Post 2 [0, 1]) (o_iload 1 <| o_iret Post))
theorem s_X_freeOpen_2 {G : oG} {Post : oP} : oS G m_X_freeOpen Post 2 (k_X_freeOpen_2 G Post) := by
  unfold k_X_freeOpen_2
  refine so_iload_n d_X_freeOpen_2 rfl ?_
  refine so_bipush d_X_freeOpen_3 rfl ?_
  refine so_icmpge d_X_freeOpen_5 (tgt := 25) (by decide) ?_ ?_
  · refine so_iconst d_X_freeOpen_25 rfl ?_
    exact so_iret d_X_freeOpen_26 rfl
  · refine so_aload_n d_X_freeOpen_8 rfl ?_
    refine so_getf cl_7 (k := 11) (by decide) w_573 d_X_freeOpen_9 ?_
    refine so_iload_n d_X_freeOpen_12 rfl ?_
    refine so_iald d_X_freeOpen_13 ?_
    refine so_ifne d_X_freeOpen_14 (tgt := 19) (by decide) ?_ ?_
    · refine so_iinc d_X_freeOpen_19 rfl (by decide) ?_
      refine so_goto d_X_freeOpen_22 (tgt := 2) (by decide) ?_
      exact so_jmp
    · refine so_iload_n d_X_freeOpen_17 rfl ?_
      exact so_iret d_X_freeOpen_18 rfl
theorem d_X_freeFile_0 : decode prog_9_method_25_code 0 = .ok (.iconst 0, 1) := by decide +kernel
theorem d_X_freeFile_1 : decode prog_9_method_25_code 1 = .ok (.istore_n 1, 1) := by decide +kernel
theorem d_X_freeFile_2 : decode prog_9_method_25_code 2 = .ok (.iload_n 1, 1) := by decide +kernel
theorem d_X_freeFile_3 : decode prog_9_method_25_code 3 = .ok (.bipush 6, 2) := by decide +kernel
theorem d_X_freeFile_5 : decode prog_9_method_25_code 5 = .ok (.if_icmp .ge 20, 3) := by decide +kernel
theorem d_X_freeFile_8 : decode prog_9_method_25_code 8 = .ok (.aload_n 0, 1) := by decide +kernel
theorem d_X_freeFile_9 : decode prog_9_method_25_code 9 = .ok (.getfield 22, 3) := by decide +kernel
theorem d_X_freeFile_12 : decode prog_9_method_25_code 12 = .ok (.iload_n 1, 1) := by decide +kernel
theorem d_X_freeFile_13 : decode prog_9_method_25_code 13 = .ok (.baload, 1) := by decide +kernel
theorem d_X_freeFile_14 : decode prog_9_method_25_code 14 = .ok (.ifCond .ne 5, 3) := by decide +kernel
theorem d_X_freeFile_17 : decode prog_9_method_25_code 17 = .ok (.iload_n 1, 1) := by decide +kernel
theorem d_X_freeFile_18 : decode prog_9_method_25_code 18 = .ok (.ireturn, 1) := by decide +kernel
theorem d_X_freeFile_19 : decode prog_9_method_25_code 19 = .ok (.iinc 1 1, 3) := by decide +kernel
theorem d_X_freeFile_22 : decode prog_9_method_25_code 22 = .ok (.goto (-20), 3) := by decide +kernel
theorem d_X_freeFile_25 : decode prog_9_method_25_code 25 = .ok (.iconst (-1), 1) := by decide +kernel
theorem d_X_freeFile_26 : decode prog_9_method_25_code 26 = .ok (.ireturn, 1) := by decide +kernel
def k_X_freeFile_0 (G : oG) (Post : oP) : oK := o_iconst 0 <| o_istore 1 <| o_jmp G m_X_freeFile Post 2 [0, 1]
theorem s_X_freeFile_0 {G : oG} {Post : oP} : oS G m_X_freeFile Post 0 (k_X_freeFile_0 G Post) := by
  unfold k_X_freeFile_0
  refine so_iconst d_X_freeFile_0 rfl ?_
  refine so_istore_n d_X_freeFile_1 rfl (by decide) ?_
  exact so_jmp
def k_X_freeFile_2 (G : oG) (Post : oP) : oK := o_iload 1 <| o_iconst 6 <| o_icmpge (o_iconst (-1) <| o_iret Post) (o_aload 0 <| o_getf 7 5 <| o_iload 1 <| o_zald <| o_ifne (o_iinc 1 1 <| o_jmp G m_X_freeFile Post 2 [0, 1]) (o_iload 1 <| o_iret Post))
theorem s_X_freeFile_2 {G : oG} {Post : oP} : oS G m_X_freeFile Post 2 (k_X_freeFile_2 G Post) := by
  unfold k_X_freeFile_2
  refine so_iload_n d_X_freeFile_2 rfl ?_
  refine so_bipush d_X_freeFile_3 rfl ?_
  refine so_icmpge d_X_freeFile_5 (tgt := 25) (by decide) ?_ ?_
  · refine so_iconst d_X_freeFile_25 rfl ?_
    exact so_iret d_X_freeFile_26 rfl
  · refine so_aload_n d_X_freeFile_8 rfl ?_
    refine so_getf cl_7 (k := 5) (by decide) w_567 d_X_freeFile_9 ?_
    refine so_iload_n d_X_freeFile_12 rfl ?_
    refine so_zald d_X_freeFile_13 ?_
    refine so_ifne d_X_freeFile_14 (tgt := 19) (by decide) ?_ ?_
    · refine so_iinc d_X_freeFile_19 rfl (by decide) ?_
      refine so_goto d_X_freeFile_22 (tgt := 2) (by decide) ?_
      exact so_jmp
    · refine so_iload_n d_X_freeFile_17 rfl ?_
      exact so_iret d_X_freeFile_18 rfl
theorem d_X_freeName_0 : decode prog_9_method_24_code 0 = .ok (.iconst 0, 1) := by decide +kernel
theorem d_X_freeName_1 : decode prog_9_method_24_code 1 = .ok (.istore_n 1, 1) := by decide +kernel
theorem d_X_freeName_2 : decode prog_9_method_24_code 2 = .ok (.iload_n 1, 1) := by decide +kernel
theorem d_X_freeName_3 : decode prog_9_method_24_code 3 = .ok (.bipush 8, 2) := by decide +kernel
theorem d_X_freeName_5 : decode prog_9_method_24_code 5 = .ok (.if_icmp .ge 20, 3) := by decide +kernel
theorem d_X_freeName_8 : decode prog_9_method_24_code 8 = .ok (.aload_n 0, 1) := by decide +kernel
theorem d_X_freeName_9 : decode prog_9_method_24_code 9 = .ok (.getfield 32, 3) := by decide +kernel
theorem d_X_freeName_12 : decode prog_9_method_24_code 12 = .ok (.iload_n 1, 1) := by decide +kernel
theorem d_X_freeName_13 : decode prog_9_method_24_code 13 = .ok (.iaload, 1) := by decide +kernel
theorem d_X_freeName_14 : decode prog_9_method_24_code 14 = .ok (.ifCond .ne 5, 3) := by decide +kernel
theorem d_X_freeName_17 : decode prog_9_method_24_code 17 = .ok (.iload_n 1, 1) := by decide +kernel
theorem d_X_freeName_18 : decode prog_9_method_24_code 18 = .ok (.ireturn, 1) := by decide +kernel
theorem d_X_freeName_19 : decode prog_9_method_24_code 19 = .ok (.iinc 1 1, 3) := by decide +kernel
theorem d_X_freeName_22 : decode prog_9_method_24_code 22 = .ok (.goto (-20), 3) := by decide +kernel
theorem d_X_freeName_25 : decode prog_9_method_24_code 25 = .ok (.iconst (-1), 1) := by decide +kernel
theorem d_X_freeName_26 : decode prog_9_method_24_code 26 = .ok (.ireturn, 1) := by decide +kernel
def k_X_freeName_0 (G : oG) (Post : oP) : oK := o_iconst 0 <| o_istore 1 <| o_jmp G m_X_freeName Post 2 [0, 1]
theorem s_X_freeName_0 {G : oG} {Post : oP} : oS G m_X_freeName Post 0 (k_X_freeName_0 G Post) := by
  unfold k_X_freeName_0
  refine so_iconst d_X_freeName_0 rfl ?_
  refine so_istore_n d_X_freeName_1 rfl (by decide) ?_
  exact so_jmp
def k_X_freeName_2 (G : oG) (Post : oP) : oK := o_iload 1 <| o_iconst 8 <| o_icmpge (o_iconst (-1) <| o_iret Post) (o_aload 0 <| o_getf 7 8 <| o_iload 1 <| o_iald G <| o_ifne (o_iinc 1 1 <| o_jmp G m_X_freeName Post 2 [0, 1]) (o_iload 1 <| o_iret Post))
theorem s_X_freeName_2 {G : oG} {Post : oP} : oS G m_X_freeName Post 2 (k_X_freeName_2 G Post) := by
  unfold k_X_freeName_2
  refine so_iload_n d_X_freeName_2 rfl ?_
  refine so_bipush d_X_freeName_3 rfl ?_
  refine so_icmpge d_X_freeName_5 (tgt := 25) (by decide) ?_ ?_
  · refine so_iconst d_X_freeName_25 rfl ?_
    exact so_iret d_X_freeName_26 rfl
  · refine so_aload_n d_X_freeName_8 rfl ?_
    refine so_getf cl_7 (k := 8) (by decide) w_570 d_X_freeName_9 ?_
    refine so_iload_n d_X_freeName_12 rfl ?_
    refine so_iald d_X_freeName_13 ?_
    refine so_ifne d_X_freeName_14 (tgt := 19) (by decide) ?_ ?_
    · refine so_iinc d_X_freeName_19 rfl (by decide) ?_
      refine so_goto d_X_freeName_22 (tgt := 2) (by decide) ?_
      exact so_jmp
    · refine so_iload_n d_X_freeName_17 rfl ?_
      exact so_iret d_X_freeName_18 rfl
theorem d_X_give_0 : decode prog_9_method_23_code 0 = .ok (.aload_n 0, 1) := by decide +kernel
theorem d_X_give_1 : decode prog_9_method_23_code 1 = .ok (.getfield 32, 3) := by decide +kernel
theorem d_X_give_4 : decode prog_9_method_23_code 4 = .ok (.iload_n 1, 1) := by decide +kernel
theorem d_X_give_5 : decode prog_9_method_23_code 5 = .ok (.aload_n 0, 1) := by decide +kernel
theorem d_X_give_6 : decode prog_9_method_23_code 6 = .ok (.getfield 74, 3) := by decide +kernel
theorem d_X_give_9 : decode prog_9_method_23_code 9 = .ok (.iload_n 2, 1) := by decide +kernel
theorem d_X_give_10 : decode prog_9_method_23_code 10 = .ok (.iaload, 1) := by decide +kernel
theorem d_X_give_11 : decode prog_9_method_23_code 11 = .ok (.iastore, 1) := by decide +kernel
theorem d_X_give_12 : decode prog_9_method_23_code 12 = .ok (.aload_n 0, 1) := by decide +kernel
theorem d_X_give_13 : decode prog_9_method_23_code 13 = .ok (.getfield 38, 3) := by decide +kernel
theorem d_X_give_16 : decode prog_9_method_23_code 16 = .ok (.iload_n 1, 1) := by decide +kernel
theorem d_X_give_17 : decode prog_9_method_23_code 17 = .ok (.iload_n 3, 1) := by decide +kernel
theorem d_X_give_18 : decode prog_9_method_23_code 18 = .ok (.iastore, 1) := by decide +kernel
theorem d_X_give_19 : decode prog_9_method_23_code 19 = .ok (.iconst 0, 1) := by decide +kernel
theorem d_X_give_20 : decode prog_9_method_23_code 20 = .ok (.istore 4, 2) := by decide +kernel
theorem d_X_give_22 : decode prog_9_method_23_code 22 = .ok (.iload 4, 2) := by decide +kernel
theorem d_X_give_24 : decode prog_9_method_23_code 24 = .ok (.aload_n 0, 1) := by decide +kernel
theorem d_X_give_25 : decode prog_9_method_23_code 25 = .ok (.getfield 74, 3) := by decide +kernel
theorem d_X_give_28 : decode prog_9_method_23_code 28 = .ok (.iload_n 2, 1) := by decide +kernel
theorem d_X_give_29 : decode prog_9_method_23_code 29 = .ok (.iaload, 1) := by decide +kernel
theorem d_X_give_30 : decode prog_9_method_23_code 30 = .ok (.if_icmp .ge 33, 3) := by decide +kernel
theorem d_X_give_33 : decode prog_9_method_23_code 33 = .ok (.aload_n 0, 1) := by decide +kernel
theorem d_X_give_34 : decode prog_9_method_23_code 34 = .ok (.getfield 35, 3) := by decide +kernel
theorem d_X_give_37 : decode prog_9_method_23_code 37 = .ok (.bipush 8, 2) := by decide +kernel
theorem d_X_give_39 : decode prog_9_method_23_code 39 = .ok (.iload_n 1, 1) := by decide +kernel
theorem d_X_give_40 : decode prog_9_method_23_code 40 = .ok (.imul, 1) := by decide +kernel
theorem d_X_give_41 : decode prog_9_method_23_code 41 = .ok (.iload 4, 2) := by decide +kernel
theorem d_X_give_43 : decode prog_9_method_23_code 43 = .ok (.iadd, 1) := by decide +kernel
theorem d_X_give_44 : decode prog_9_method_23_code 44 = .ok (.aload_n 0, 1) := by decide +kernel
theorem d_X_give_45 : decode prog_9_method_23_code 45 = .ok (.getfield 71, 3) := by decide +kernel
theorem d_X_give_48 : decode prog_9_method_23_code 48 = .ok (.bipush 8, 2) := by decide +kernel
theorem d_X_give_50 : decode prog_9_method_23_code 50 = .ok (.iload_n 2, 1) := by decide +kernel
theorem d_X_give_51 : decode prog_9_method_23_code 51 = .ok (.imul, 1) := by decide +kernel
theorem d_X_give_52 : decode prog_9_method_23_code 52 = .ok (.iload 4, 2) := by decide +kernel
theorem d_X_give_54 : decode prog_9_method_23_code 54 = .ok (.iadd, 1) := by decide +kernel
theorem d_X_give_55 : decode prog_9_method_23_code 55 = .ok (.iaload, 1) := by decide +kernel
theorem d_X_give_56 : decode prog_9_method_23_code 56 = .ok (.iastore, 1) := by decide +kernel
theorem d_X_give_57 : decode prog_9_method_23_code 57 = .ok (.iinc 4 1, 3) := by decide +kernel
theorem d_X_give_60 : decode prog_9_method_23_code 60 = .ok (.goto (-38), 3) := by decide +kernel
theorem d_X_give_63 : decode prog_9_method_23_code 63 = .ok (.return_, 1) := by decide +kernel
def k_X_give_0 (G : oG) (Post : oP) : oK := o_aload 0 <| o_getf 7 8 <| o_iload 1 <| o_aload 0 <| o_getf 7 27 <| o_iload 2 <| o_iald G <| o_iast <| o_aload 0 <| o_getf 7 10 <| o_iload 1 <| o_iload 3 <| o_iast <| o_iconst 0 <| o_istore 4 <| o_jmp G m_X_give Post 22 [0, 1, 2, 4]
theorem s_X_give_0 {G : oG} {Post : oP} : oS G m_X_give Post 0 (k_X_give_0 G Post) := by
  unfold k_X_give_0
  refine so_aload_n d_X_give_0 rfl ?_
  refine so_getf cl_7 (k := 8) (by decide) w_570 d_X_give_1 ?_
  refine so_iload_n d_X_give_4 rfl ?_
  refine so_aload_n d_X_give_5 rfl ?_
  refine so_getf cl_7 (k := 27) (by decide) w_589 d_X_give_6 ?_
  refine so_iload_n d_X_give_9 rfl ?_
  refine so_iald d_X_give_10 ?_
  refine so_iast d_X_give_11 ?_
  refine so_aload_n d_X_give_12 rfl ?_
  refine so_getf cl_7 (k := 10) (by decide) w_572 d_X_give_13 ?_
  refine so_iload_n d_X_give_16 rfl ?_
  refine so_iload_n d_X_give_17 rfl ?_
  refine so_iast d_X_give_18 ?_
  refine so_iconst d_X_give_19 rfl ?_
  refine so_istore d_X_give_20 (by decide) ?_
  exact so_jmp
def k_X_give_22 (G : oG) (Post : oP) : oK := o_iload 4 <| o_aload 0 <| o_getf 7 27 <| o_iload 2 <| o_iald G <| o_icmpge (o_vret Post) (o_aload 0 <| o_getf 7 9 <| o_iconst 8 <| o_iload 1 <| o_imul <| o_iload 4 <| o_iadd <| o_aload 0 <| o_getf 7 26 <| o_iconst 8 <| o_iload 2 <| o_imul <| o_iload 4 <| o_iadd <| o_iald G <| o_iast <| o_iinc 4 1 <| o_jmp G m_X_give Post 22 [0, 1, 2, 4])
theorem s_X_give_22 {G : oG} {Post : oP} : oS G m_X_give Post 22 (k_X_give_22 G Post) := by
  unfold k_X_give_22
  refine so_iload d_X_give_22 ?_
  refine so_aload_n d_X_give_24 rfl ?_
  refine so_getf cl_7 (k := 27) (by decide) w_589 d_X_give_25 ?_
  refine so_iload_n d_X_give_28 rfl ?_
  refine so_iald d_X_give_29 ?_
  refine so_icmpge d_X_give_30 (tgt := 63) (by decide) ?_ ?_
  · exact so_vret d_X_give_63 rfl
  · refine so_aload_n d_X_give_33 rfl ?_
    refine so_getf cl_7 (k := 9) (by decide) w_571 d_X_give_34 ?_
    refine so_bipush d_X_give_37 rfl ?_
    refine so_iload_n d_X_give_39 rfl ?_
    refine so_imul d_X_give_40 ?_
    refine so_iload d_X_give_41 ?_
    refine so_iadd d_X_give_43 ?_
    refine so_aload_n d_X_give_44 rfl ?_
    refine so_getf cl_7 (k := 26) (by decide) w_588 d_X_give_45 ?_
    refine so_bipush d_X_give_48 rfl ?_
    refine so_iload_n d_X_give_50 rfl ?_
    refine so_imul d_X_give_51 ?_
    refine so_iload d_X_give_52 ?_
    refine so_iadd d_X_give_54 ?_
    refine so_iald d_X_give_55 ?_
    refine so_iast d_X_give_56 ?_
    refine so_iinc d_X_give_57 rfl (by decide) ?_
    refine so_goto d_X_give_60 (tgt := 22) (by decide) ?_
    exact so_jmp
theorem d_X_newOpen_0 : decode prog_9_method_34_code 0 = .ok (.aload_n 0, 1) := by decide +kernel
theorem d_X_newOpen_1 : decode prog_9_method_34_code 1 = .ok (.invokevirtual 174, 3) := by decide +kernel
theorem d_X_newOpen_4 : decode prog_9_method_34_code 4 = .ok (.istore 5, 2) := by decide +kernel
theorem d_X_newOpen_6 : decode prog_9_method_34_code 6 = .ok (.aload_n 0, 1) := by decide +kernel
theorem d_X_newOpen_7 : decode prog_9_method_34_code 7 = .ok (.getfield 41, 3) := by decide +kernel
theorem d_X_newOpen_10 : decode prog_9_method_34_code 10 = .ok (.iload 5, 2) := by decide +kernel
theorem d_X_newOpen_12 : decode prog_9_method_34_code 12 = .ok (.iload_n 2, 1) := by decide +kernel
theorem d_X_newOpen_13 : decode prog_9_method_34_code 13 = .ok (.iastore, 1) := by decide +kernel
theorem d_X_newOpen_14 : decode prog_9_method_34_code 14 = .ok (.aload_n 0, 1) := by decide +kernel
theorem d_X_newOpen_15 : decode prog_9_method_34_code 15 = .ok (.getfield 44, 3) := by decide +kernel
theorem d_X_newOpen_18 : decode prog_9_method_34_code 18 = .ok (.iload 5, 2) := by decide +kernel
theorem d_X_newOpen_20 : decode prog_9_method_34_code 20 = .ok (.iload_n 3, 1) := by decide +kernel
theorem d_X_newOpen_21 : decode prog_9_method_34_code 21 = .ok (.iastore, 1) := by decide +kernel
theorem d_X_newOpen_22 : decode prog_9_method_34_code 22 = .ok (.aload_n 0, 1) := by decide +kernel
theorem d_X_newOpen_23 : decode prog_9_method_34_code 23 = .ok (.getfield 47, 3) := by decide +kernel
theorem d_X_newOpen_26 : decode prog_9_method_34_code 26 = .ok (.iload 5, 2) := by decide +kernel
theorem d_X_newOpen_28 : decode prog_9_method_34_code 28 = .ok (.iconst 0, 1) := by decide +kernel
theorem d_X_newOpen_29 : decode prog_9_method_34_code 29 = .ok (.iastore, 1) := by decide +kernel
theorem d_X_newOpen_30 : decode prog_9_method_34_code 30 = .ok (.aload_n 0, 1) := by decide +kernel
theorem d_X_newOpen_31 : decode prog_9_method_34_code 31 = .ok (.getfield 50, 3) := by decide +kernel
theorem d_X_newOpen_34 : decode prog_9_method_34_code 34 = .ok (.iload 5, 2) := by decide +kernel
theorem d_X_newOpen_36 : decode prog_9_method_34_code 36 = .ok (.iload 4, 2) := by decide +kernel
theorem d_X_newOpen_38 : decode prog_9_method_34_code 38 = .ok (.iastore, 1) := by decide +kernel
theorem d_X_newOpen_39 : decode prog_9_method_34_code 39 = .ok (.aload_n 0, 1) := by decide +kernel
theorem d_X_newOpen_40 : decode prog_9_method_34_code 40 = .ok (.getfield 62, 3) := by decide +kernel
theorem d_X_newOpen_43 : decode prog_9_method_34_code 43 = .ok (.iconst 5, 1) := by decide +kernel
theorem d_X_newOpen_44 : decode prog_9_method_34_code 44 = .ok (.aload_n 0, 1) := by decide +kernel
theorem d_X_newOpen_45 : decode prog_9_method_34_code 45 = .ok (.getfield 92, 3) := by decide +kernel
theorem d_X_newOpen_48 : decode prog_9_method_34_code 48 = .ok (.imul, 1) := by decide +kernel
theorem d_X_newOpen_49 : decode prog_9_method_34_code 49 = .ok (.iload_n 1, 1) := by decide +kernel
theorem d_X_newOpen_50 : decode prog_9_method_34_code 50 = .ok (.iadd, 1) := by decide +kernel
theorem d_X_newOpen_51 : decode prog_9_method_34_code 51 = .ok (.iload 5, 2) := by decide +kernel
theorem d_X_newOpen_53 : decode prog_9_method_34_code 53 = .ok (.iconst 1, 1) := by decide +kernel
theorem d_X_newOpen_54 : decode prog_9_method_34_code 54 = .ok (.iadd, 1) := by decide +kernel
theorem d_X_newOpen_55 : decode prog_9_method_34_code 55 = .ok (.iastore, 1) := by decide +kernel
theorem d_X_newOpen_56 : decode prog_9_method_34_code 56 = .ok (.iload_n 1, 1) := by decide +kernel
theorem d_X_newOpen_57 : decode prog_9_method_34_code 57 = .ok (.ireturn, 1) := by decide +kernel
def k_X_newOpen_0 (G : oG) (Post : oP) : oK := o_aload 0 <| o_callV G 7 m_X_freeOpen 0 <| o_jmp G m_X_newOpen Post 4 [0, 1, 2, 3, 4]
theorem s_X_newOpen_0 {G : oG} {Post : oP} : oS G m_X_newOpen Post 0 (k_X_newOpen_0 G Post) := by
  unfold k_X_newOpen_0
  refine so_aload_n d_X_newOpen_0 rfl ?_
  refine so_callV cl_7 f_X_freeOpen w_723 w_37 w_721 (by decide) (by decide) d_X_newOpen_1 ?_
  exact so_jmp
def k_X_newOpen_4 (G : oG) (Post : oP) : oK := o_istore 5 <| o_aload 0 <| o_getf 7 11 <| o_iload 5 <| o_iload 2 <| o_iast <| o_aload 0 <| o_getf 7 12 <| o_iload 5 <| o_iload 3 <| o_iast <| o_aload 0 <| o_getf 7 13 <| o_iload 5 <| o_iconst 0 <| o_iast <| o_aload 0 <| o_getf 7 14 <| o_iload 5 <| o_iload 4 <| o_iast <| o_aload 0 <| o_getf 7 18 <| o_iconst 5 <| o_aload 0 <| o_getf 7 19 <| o_imul <| o_iload 1 <| o_iadd <| o_iload 5 <| o_iconst 1 <| o_iadd <| o_iast <| o_iload 1 <| o_iret Post
theorem s_X_newOpen_4 {G : oG} {Post : oP} : oS G m_X_newOpen Post 4 (k_X_newOpen_4 G Post) := by
  unfold k_X_newOpen_4
  refine so_istore d_X_newOpen_4 (by decide) ?_
  refine so_aload_n d_X_newOpen_6 rfl ?_
  refine so_getf cl_7 (k := 11) (by decide) w_573 d_X_newOpen_7 ?_
  refine so_iload d_X_newOpen_10 ?_
  refine so_iload_n d_X_newOpen_12 rfl ?_
  refine so_iast d_X_newOpen_13 ?_
  refine so_aload_n d_X_newOpen_14 rfl ?_
  refine so_getf cl_7 (k := 12) (by decide) w_574 d_X_newOpen_15 ?_
  refine so_iload d_X_newOpen_18 ?_
  refine so_iload_n d_X_newOpen_20 rfl ?_
  refine so_iast d_X_newOpen_21 ?_
  refine so_aload_n d_X_newOpen_22 rfl ?_
  refine so_getf cl_7 (k := 13) (by decide) w_575 d_X_newOpen_23 ?_
  refine so_iload d_X_newOpen_26 ?_
  refine so_iconst d_X_newOpen_28 rfl ?_
  refine so_iast d_X_newOpen_29 ?_
  refine so_aload_n d_X_newOpen_30 rfl ?_
  refine so_getf cl_7 (k := 14) (by decide) w_576 d_X_newOpen_31 ?_
  refine so_iload d_X_newOpen_34 ?_
  refine so_iload d_X_newOpen_36 ?_
  refine so_iast d_X_newOpen_38 ?_
  refine so_aload_n d_X_newOpen_39 rfl ?_
  refine so_getf cl_7 (k := 18) (by decide) w_580 d_X_newOpen_40 ?_
  refine so_iconst d_X_newOpen_43 rfl ?_
  refine so_aload_n d_X_newOpen_44 rfl ?_
  refine so_getf cl_7 (k := 19) (by decide) w_581 d_X_newOpen_45 ?_
  refine so_imul d_X_newOpen_48 ?_
  refine so_iload_n d_X_newOpen_49 rfl ?_
  refine so_iadd d_X_newOpen_50 ?_
  refine so_iload d_X_newOpen_51 ?_
  refine so_iconst d_X_newOpen_53 rfl ?_
  refine so_iadd d_X_newOpen_54 ?_
  refine so_iast d_X_newOpen_55 ?_
  refine so_iload_n d_X_newOpen_56 rfl ?_
  exact so_iret d_X_newOpen_57 rfl
theorem d_X_open_0 : decode prog_9_method_35_code 0 = .ok (.aload_n 0, 1) := by decide +kernel
theorem d_X_open_1 : decode prog_9_method_35_code 1 = .ok (.getfield 99, 3) := by decide +kernel
theorem d_X_open_4 : decode prog_9_method_35_code 4 = .ok (.ifCond .lt 40, 3) := by decide +kernel
theorem d_X_open_7 : decode prog_9_method_35_code 7 = .ok (.aload_n 0, 1) := by decide +kernel
theorem d_X_open_8 : decode prog_9_method_35_code 8 = .ok (.getfield 99, 3) := by decide +kernel
theorem d_X_open_11 : decode prog_9_method_35_code 11 = .ok (.bipush 15, 2) := by decide +kernel
theorem d_X_open_13 : decode prog_9_method_35_code 13 = .ok (.if_icmp .gt 31, 3) := by decide +kernel
theorem d_X_open_16 : decode prog_9_method_35_code 16 = .ok (.aload_n 0, 1) := by decide +kernel
theorem d_X_open_17 : decode prog_9_method_35_code 17 = .ok (.getfield 99, 3) := by decide +kernel
theorem d_X_open_20 : decode prog_9_method_35_code 20 = .ok (.iconst 3, 1) := by decide +kernel
theorem d_X_open_21 : decode prog_9_method_35_code 21 = .ok (.iand, 1) := by decide +kernel
theorem d_X_open_22 : decode prog_9_method_35_code 22 = .ok (.ifCond .eq 22, 3) := by decide +kernel
theorem d_X_open_25 : decode prog_9_method_35_code 25 = .ok (.aload_n 0, 1) := by decide +kernel
theorem d_X_open_26 : decode prog_9_method_35_code 26 = .ok (.getfield 99, 3) := by decide +kernel
theorem d_X_open_29 : decode prog_9_method_35_code 29 = .ok (.bipush 8, 2) := by decide +kernel
theorem d_X_open_31 : decode prog_9_method_35_code 31 = .ok (.iand, 1) := by decide +kernel
theorem d_X_open_32 : decode prog_9_method_35_code 32 = .ok (.ifCond .eq 15, 3) := by decide +kernel
theorem d_X_open_35 : decode prog_9_method_35_code 35 = .ok (.aload_n 0, 1) := by decide +kernel
theorem d_X_open_36 : decode prog_9_method_35_code 36 = .ok (.getfield 99, 3) := by decide +kernel
theorem d_X_open_39 : decode prog_9_method_35_code 39 = .ok (.iconst 2, 1) := by decide +kernel
theorem d_X_open_40 : decode prog_9_method_35_code 40 = .ok (.iand, 1) := by decide +kernel
theorem d_X_open_41 : decode prog_9_method_35_code 41 = .ok (.ifCond .ne 6, 3) := by decide +kernel
theorem d_X_open_44 : decode prog_9_method_35_code 44 = .ok (.bipush (-22), 2) := by decide +kernel
theorem d_X_open_46 : decode prog_9_method_35_code 46 = .ok (.ireturn, 1) := by decide +kernel
theorem d_X_open_47 : decode prog_9_method_35_code 47 = .ok (.aload_n 0, 1) := by decide +kernel
theorem d_X_open_48 : decode prog_9_method_35_code 48 = .ok (.iconst 0, 1) := by decide +kernel
theorem d_X_open_49 : decode prog_9_method_35_code 49 = .ok (.aload_n 0, 1) := by decide +kernel
theorem d_X_open_50 : decode prog_9_method_35_code 50 = .ok (.getfield 96, 3) := by decide +kernel
theorem d_X_open_53 : decode prog_9_method_35_code 53 = .ok (.invokevirtual 177, 3) := by decide +kernel
theorem d_X_open_56 : decode prog_9_method_35_code 56 = .ok (.ifCond .ne 6, 3) := by decide +kernel
theorem d_X_open_59 : decode prog_9_method_35_code 59 = .ok (.bipush (-14), 2) := by decide +kernel
theorem d_X_open_61 : decode prog_9_method_35_code 61 = .ok (.ireturn, 1) := by decide +kernel
theorem d_X_open_62 : decode prog_9_method_35_code 62 = .ok (.aload_n 0, 1) := by decide +kernel
theorem d_X_open_63 : decode prog_9_method_35_code 63 = .ok (.iconst 0, 1) := by decide +kernel
theorem d_X_open_64 : decode prog_9_method_35_code 64 = .ok (.invokevirtual 180, 3) := by decide +kernel
theorem d_X_open_67 : decode prog_9_method_35_code 67 = .ok (.istore_n 1, 1) := by decide +kernel
theorem d_X_open_68 : decode prog_9_method_35_code 68 = .ok (.aload_n 0, 1) := by decide +kernel
theorem d_X_open_69 : decode prog_9_method_35_code 69 = .ok (.getfield 74, 3) := by decide +kernel
theorem d_X_open_72 : decode prog_9_method_35_code 72 = .ok (.iconst 0, 1) := by decide +kernel
theorem d_X_open_73 : decode prog_9_method_35_code 73 = .ok (.iaload, 1) := by decide +kernel
theorem d_X_open_74 : decode prog_9_method_35_code 74 = .ok (.ifCond .eq 16, 3) := by decide +kernel
theorem d_X_open_77 : decode prog_9_method_35_code 77 = .ok (.iload_n 1, 1) := by decide +kernel
theorem d_X_open_78 : decode prog_9_method_35_code 78 = .ok (.ifCond .ge 15, 3) := by decide +kernel
theorem d_X_open_81 : decode prog_9_method_35_code 81 = .ok (.aload_n 0, 1) := by decide +kernel
theorem d_X_open_82 : decode prog_9_method_35_code 82 = .ok (.getfield 99, 3) := by decide +kernel
theorem d_X_open_85 : decode prog_9_method_35_code 85 = .ok (.iconst 4, 1) := by decide +kernel
theorem d_X_open_86 : decode prog_9_method_35_code 86 = .ok (.iand, 1) := by decide +kernel
theorem d_X_open_87 : decode prog_9_method_35_code 87 = .ok (.ifCond .ne 6, 3) := by decide +kernel
theorem d_X_open_90 : decode prog_9_method_35_code 90 = .ok (.bipush (-2), 2) := by decide +kernel
theorem d_X_open_92 : decode prog_9_method_35_code 92 = .ok (.ireturn, 1) := by decide +kernel
theorem d_X_open_93 : decode prog_9_method_35_code 93 = .ok (.aload_n 0, 1) := by decide +kernel
theorem d_X_open_94 : decode prog_9_method_35_code 94 = .ok (.invokevirtual 183, 3) := by decide +kernel
theorem d_X_open_97 : decode prog_9_method_35_code 97 = .ok (.istore_n 2, 1) := by decide +kernel
theorem d_X_open_98 : decode prog_9_method_35_code 98 = .ok (.iload_n 2, 1) := by decide +kernel
theorem d_X_open_99 : decode prog_9_method_35_code 99 = .ok (.ifCond .ge 6, 3) := by decide +kernel
theorem d_X_open_102 : decode prog_9_method_35_code 102 = .ok (.bipush (-24), 2) := by decide +kernel
theorem d_X_open_104 : decode prog_9_method_35_code 104 = .ok (.ireturn, 1) := by decide +kernel
theorem d_X_open_105 : decode prog_9_method_35_code 105 = .ok (.aload_n 0, 1) := by decide +kernel
theorem d_X_open_106 : decode prog_9_method_35_code 106 = .ok (.invokevirtual 174, 3) := by decide +kernel
theorem d_X_open_109 : decode prog_9_method_35_code 109 = .ok (.ifCond .ge 6, 3) := by decide +kernel
theorem d_X_open_112 : decode prog_9_method_35_code 112 = .ok (.bipush (-23), 2) := by decide +kernel
theorem d_X_open_114 : decode prog_9_method_35_code 114 = .ok (.ireturn, 1) := by decide +kernel
theorem d_X_open_115 : decode prog_9_method_35_code 115 = .ok (.iload_n 1, 1) := by decide +kernel
theorem d_X_open_116 : decode prog_9_method_35_code 116 = .ok (.ifCond .ge 20, 3) := by decide +kernel
theorem d_X_open_119 : decode prog_9_method_35_code 119 = .ok (.aload_n 0, 1) := by decide +kernel
theorem d_X_open_120 : decode prog_9_method_35_code 120 = .ok (.invokevirtual 186, 3) := by decide +kernel
theorem d_X_open_123 : decode prog_9_method_35_code 123 = .ok (.ifCond .lt 10, 3) := by decide +kernel
theorem d_X_open_126 : decode prog_9_method_35_code 126 = .ok (.aload_n 0, 1) := by decide +kernel
theorem d_X_open_127 : decode prog_9_method_35_code 127 = .ok (.invokevirtual 189, 3) := by decide +kernel
theorem d_X_open_130 : decode prog_9_method_35_code 130 = .ok (.ifCond .ge 6, 3) := by decide +kernel
theorem d_X_open_133 : decode prog_9_method_35_code 133 = .ok (.bipush (-28), 2) := by decide +kernel
theorem d_X_open_135 : decode prog_9_method_35_code 135 = .ok (.ireturn, 1) := by decide +kernel
theorem d_X_open_136 : decode prog_9_method_35_code 136 = .ok (.iload_n 1, 1) := by decide +kernel
theorem d_X_open_137 : decode prog_9_method_35_code 137 = .ok (.ifCond .ge 34, 3) := by decide +kernel
theorem d_X_open_140 : decode prog_9_method_35_code 140 = .ok (.aload_n 0, 1) := by decide +kernel
theorem d_X_open_141 : decode prog_9_method_35_code 141 = .ok (.invokevirtual 186, 3) := by decide +kernel
theorem d_X_open_144 : decode prog_9_method_35_code 144 = .ok (.istore_n 3, 1) := by decide +kernel
theorem d_X_open_145 : decode prog_9_method_35_code 145 = .ok (.aload_n 0, 1) := by decide +kernel
theorem d_X_open_146 : decode prog_9_method_35_code 146 = .ok (.invokevirtual 189, 3) := by decide +kernel
theorem d_X_open_149 : decode prog_9_method_35_code 149 = .ok (.istore_n 1, 1) := by decide +kernel
theorem d_X_open_150 : decode prog_9_method_35_code 150 = .ok (.aload_n 0, 1) := by decide +kernel
theorem d_X_open_151 : decode prog_9_method_35_code 151 = .ok (.getfield 22, 3) := by decide +kernel
theorem d_X_open_154 : decode prog_9_method_35_code 154 = .ok (.iload_n 3, 1) := by decide +kernel
theorem d_X_open_155 : decode prog_9_method_35_code 155 = .ok (.iconst 1, 1) := by decide +kernel
theorem d_X_open_156 : decode prog_9_method_35_code 156 = .ok (.bastore, 1) := by decide +kernel
theorem d_X_open_157 : decode prog_9_method_35_code 157 = .ok (.aload_n 0, 1) := by decide +kernel
theorem d_X_open_158 : decode prog_9_method_35_code 158 = .ok (.getfield 26, 3) := by decide +kernel
theorem d_X_open_161 : decode prog_9_method_35_code 161 = .ok (.iload_n 3, 1) := by decide +kernel
theorem d_X_open_162 : decode prog_9_method_35_code 162 = .ok (.iconst 0, 1) := by decide +kernel
theorem d_X_open_163 : decode prog_9_method_35_code 163 = .ok (.iastore, 1) := by decide +kernel
theorem d_X_open_164 : decode prog_9_method_35_code 164 = .ok (.aload_n 0, 1) := by decide +kernel
theorem d_X_open_165 : decode prog_9_method_35_code 165 = .ok (.iload_n 1, 1) := by decide +kernel
theorem d_X_open_166 : decode prog_9_method_35_code 166 = .ok (.iconst 0, 1) := by decide +kernel
theorem d_X_open_167 : decode prog_9_method_35_code 167 = .ok (.iload_n 3, 1) := by decide +kernel
theorem d_X_open_168 : decode prog_9_method_35_code 168 = .ok (.invokevirtual 192, 3) := by decide +kernel
theorem d_X_open_171 : decode prog_9_method_35_code 171 = .ok (.aload_n 0, 1) := by decide +kernel
theorem d_X_open_172 : decode prog_9_method_35_code 172 = .ok (.getfield 99, 3) := by decide +kernel
theorem d_X_open_175 : decode prog_9_method_35_code 175 = .ok (.bipush 8, 2) := by decide +kernel
theorem d_X_open_177 : decode prog_9_method_35_code 177 = .ok (.iand, 1) := by decide +kernel
theorem d_X_open_178 : decode prog_9_method_35_code 178 = .ok (.ifCond .eq 15, 3) := by decide +kernel
theorem d_X_open_181 : decode prog_9_method_35_code 181 = .ok (.aload_n 0, 1) := by decide +kernel
theorem d_X_open_182 : decode prog_9_method_35_code 182 = .ok (.getfield 26, 3) := by decide +kernel
theorem d_X_open_185 : decode prog_9_method_35_code 185 = .ok (.aload_n 0, 1) := by decide +kernel
theorem d_X_open_186 : decode prog_9_method_35_code 186 = .ok (.getfield 38, 3) := by decide +kernel
theorem d_X_open_189 : decode prog_9_method_35_code 189 = .ok (.iload_n 1, 1) := by decide +kernel
theorem d_X_open_190 : decode prog_9_method_35_code 190 = .ok (.iaload, 1) := by decide +kernel
theorem d_X_open_191 : decode prog_9_method_35_code 191 = .ok (.iconst 0, 1) := by decide +kernel
theorem d_X_open_192 : decode prog_9_method_35_code 192 = .ok (.iastore, 1) := by decide +kernel
theorem d_X_open_193 : decode prog_9_method_35_code 193 = .ok (.aload_n 0, 1) := by decide +kernel
theorem d_X_open_194 : decode prog_9_method_35_code 194 = .ok (.iload_n 2, 1) := by decide +kernel
theorem d_X_open_195 : decode prog_9_method_35_code 195 = .ok (.iconst 1, 1) := by decide +kernel
theorem d_X_open_196 : decode prog_9_method_35_code 196 = .ok (.aload_n 0, 1) := by decide +kernel
theorem d_X_open_197 : decode prog_9_method_35_code 197 = .ok (.getfield 38, 3) := by decide +kernel
theorem d_X_open_200 : decode prog_9_method_35_code 200 = .ok (.iload_n 1, 1) := by decide +kernel
theorem d_X_open_201 : decode prog_9_method_35_code 201 = .ok (.iaload, 1) := by decide +kernel
theorem d_X_open_202 : decode prog_9_method_35_code 202 = .ok (.aload_n 0, 1) := by decide +kernel
theorem d_X_open_203 : decode prog_9_method_35_code 203 = .ok (.getfield 99, 3) := by decide +kernel
theorem d_X_open_206 : decode prog_9_method_35_code 206 = .ok (.iconst 3, 1) := by decide +kernel
theorem d_X_open_207 : decode prog_9_method_35_code 207 = .ok (.iand, 1) := by decide +kernel
theorem d_X_open_208 : decode prog_9_method_35_code 208 = .ok (.invokevirtual 196, 3) := by decide +kernel
theorem d_X_open_211 : decode prog_9_method_35_code 211 = .ok (.ireturn, 1) := by decide +kernel
def k_X_open_0 (G : oG) (Post : oP) : oK := o_aload 0 <| o_getf 7 21 <| o_iflt (o_iconst (-22) <| o_iret Post) (o_aload 0 <| o_getf 7 21 <| o_iconst 15 <| o_icmpgt (o_iconst (-22) <| o_iret Post) (o_aload 0 <| o_getf 7 21 <| o_iconst 3 <| o_iand <| o_ifeq (o_iconst (-22) <| o_iret Post) (o_aload 0 <| o_getf 7 21 <| o_iconst 8 <| o_iand <| o_ifeq (o_aload 0 <| o_iconst 0 <| o_aload 0 <| o_getf 7 20 <| o_callV G 7 m_X_string 2 <| o_jmp G m_X_open Post 56 [0]) (o_aload 0 <| o_getf 7 21 <| o_iconst 2 <| o_iand <| o_ifne (o_aload 0 <| o_iconst 0 <| o_aload 0 <| o_getf 7 20 <| o_callV G 7 m_X_string 2 <| o_jmp G m_X_open Post 56 [0]) (o_iconst (-22) <| o_iret Post)))))
theorem s_X_open_0 {G : oG} {Post : oP} : oS G m_X_open Post 0 (k_X_open_0 G Post) := by
  unfold k_X_open_0
  refine so_aload_n d_X_open_0 rfl ?_
  refine so_getf cl_7 (k := 21) (by decide) w_583 d_X_open_1 ?_
  refine so_iflt d_X_open_4 (tgt := 44) (by decide) ?_ ?_
  · refine so_bipush d_X_open_44 rfl ?_
    exact so_iret d_X_open_46 rfl
  · refine so_aload_n d_X_open_7 rfl ?_
    refine so_getf cl_7 (k := 21) (by decide) w_583 d_X_open_8 ?_
    refine so_bipush d_X_open_11 rfl ?_
    refine so_icmpgt d_X_open_13 (tgt := 44) (by decide) ?_ ?_
    · refine so_bipush d_X_open_44 rfl ?_
      exact so_iret d_X_open_46 rfl
    · refine so_aload_n d_X_open_16 rfl ?_
      refine so_getf cl_7 (k := 21) (by decide) w_583 d_X_open_17 ?_
      refine so_iconst d_X_open_20 rfl ?_
      refine so_iand d_X_open_21 ?_
      refine so_ifeq d_X_open_22 (tgt := 44) (by decide) ?_ ?_
      · refine so_bipush d_X_open_44 rfl ?_
        exact so_iret d_X_open_46 rfl
      · refine so_aload_n d_X_open_25 rfl ?_
        refine so_getf cl_7 (k := 21) (by decide) w_583 d_X_open_26 ?_
        refine so_bipush d_X_open_29 rfl ?_
        refine so_iand d_X_open_31 ?_
        refine so_ifeq d_X_open_32 (tgt := 47) (by decide) ?_ ?_
        · refine so_aload_n d_X_open_47 rfl ?_
          refine so_iconst d_X_open_48 rfl ?_
          refine so_aload_n d_X_open_49 rfl ?_
          refine so_getf cl_7 (k := 20) (by decide) w_582 d_X_open_50 ?_
          refine so_callV cl_7 f_X_string w_703 w_32 w_701 (by decide) (by decide) d_X_open_53 ?_
          exact so_jmp
        · refine so_aload_n d_X_open_35 rfl ?_
          refine so_getf cl_7 (k := 21) (by decide) w_583 d_X_open_36 ?_
          refine so_iconst d_X_open_39 rfl ?_
          refine so_iand d_X_open_40 ?_
          refine so_ifne d_X_open_41 (tgt := 47) (by decide) ?_ ?_
          · refine so_aload_n d_X_open_47 rfl ?_
            refine so_iconst d_X_open_48 rfl ?_
            refine so_aload_n d_X_open_49 rfl ?_
            refine so_getf cl_7 (k := 20) (by decide) w_582 d_X_open_50 ?_
            refine so_callV cl_7 f_X_string w_703 w_32 w_701 (by decide) (by decide) d_X_open_53 ?_
            exact so_jmp
          · refine so_bipush d_X_open_44 rfl ?_
            exact so_iret d_X_open_46 rfl
def k_X_open_56 (G : oG) (Post : oP) : oK := o_ifne (o_aload 0 <| o_iconst 0 <| o_callV G 7 m_X_name 1 <| o_jmp G m_X_open Post 67 [0]) (o_iconst (-14) <| o_iret Post)
theorem s_X_open_56 {G : oG} {Post : oP} : oS G m_X_open Post 56 (k_X_open_56 G Post) := by
  unfold k_X_open_56
  refine so_ifne d_X_open_56 (tgt := 62) (by decide) ?_ ?_
  · refine so_aload_n d_X_open_62 rfl ?_
    refine so_iconst d_X_open_63 rfl ?_
    refine so_callV cl_7 f_X_name w_711 w_34 w_709 (by decide) (by decide) d_X_open_64 ?_
    exact so_jmp
  · refine so_bipush d_X_open_59 rfl ?_
    exact so_iret d_X_open_61 rfl
def k_X_open_67 (G : oG) (Post : oP) : oK := o_istore 1 <| o_aload 0 <| o_getf 7 27 <| o_iconst 0 <| o_iald G <| o_ifeq (o_iconst (-2) <| o_iret Post) (o_iload 1 <| o_ifge (o_aload 0 <| o_callV G 7 m_X_freeDescriptor 0 <| o_jmp G m_X_open Post 97 [0, 1]) (o_aload 0 <| o_getf 7 21 <| o_iconst 4 <| o_iand <| o_ifne (o_aload 0 <| o_callV G 7 m_X_freeDescriptor 0 <| o_jmp G m_X_open Post 97 [0, 1]) (o_iconst (-2) <| o_iret Post)))
theorem s_X_open_67 {G : oG} {Post : oP} : oS G m_X_open Post 67 (k_X_open_67 G Post) := by
  unfold k_X_open_67
  refine so_istore_n d_X_open_67 rfl (by decide) ?_
  refine so_aload_n d_X_open_68 rfl ?_
  refine so_getf cl_7 (k := 27) (by decide) w_589 d_X_open_69 ?_
  refine so_iconst d_X_open_72 rfl ?_
  refine so_iald d_X_open_73 ?_
  refine so_ifeq d_X_open_74 (tgt := 90) (by decide) ?_ ?_
  · refine so_bipush d_X_open_90 rfl ?_
    exact so_iret d_X_open_92 rfl
  · refine so_iload_n d_X_open_77 rfl ?_
    refine so_ifge d_X_open_78 (tgt := 93) (by decide) ?_ ?_
    · refine so_aload_n d_X_open_93 rfl ?_
      refine so_callV cl_7 f_X_freeDescriptor w_719 w_36 w_717 (by decide) (by decide) d_X_open_94 ?_
      exact so_jmp
    · refine so_aload_n d_X_open_81 rfl ?_
      refine so_getf cl_7 (k := 21) (by decide) w_583 d_X_open_82 ?_
      refine so_iconst d_X_open_85 rfl ?_
      refine so_iand d_X_open_86 ?_
      refine so_ifne d_X_open_87 (tgt := 93) (by decide) ?_ ?_
      · refine so_aload_n d_X_open_93 rfl ?_
        refine so_callV cl_7 f_X_freeDescriptor w_719 w_36 w_717 (by decide) (by decide) d_X_open_94 ?_
        exact so_jmp
      · refine so_bipush d_X_open_90 rfl ?_
        exact so_iret d_X_open_92 rfl
def k_X_open_97 (G : oG) (Post : oP) : oK := o_istore 2 <| o_iload 2 <| o_ifge (o_aload 0 <| o_callV G 7 m_X_freeOpen 0 <| o_jmp G m_X_open Post 109 [0, 1, 2]) (o_iconst (-24) <| o_iret Post)
theorem s_X_open_97 {G : oG} {Post : oP} : oS G m_X_open Post 97 (k_X_open_97 G Post) := by
  unfold k_X_open_97
  refine so_istore_n d_X_open_97 rfl (by decide) ?_
  refine so_iload_n d_X_open_98 rfl ?_
  refine so_ifge d_X_open_99 (tgt := 105) (by decide) ?_ ?_
  · refine so_aload_n d_X_open_105 rfl ?_
    refine so_callV cl_7 f_X_freeOpen w_723 w_37 w_721 (by decide) (by decide) d_X_open_106 ?_
    exact so_jmp
  · refine so_bipush d_X_open_102 rfl ?_
    exact so_iret d_X_open_104 rfl
def k_X_open_109 (G : oG) (Post : oP) : oK := o_ifge (o_iload 1 <| o_ifge (o_iload 1 <| o_ifge (o_jmp G m_X_open Post 171 [0, 1, 2]) (o_aload 0 <| o_callV G 7 m_X_freeFile 0 <| o_jmp G m_X_open Post 144 [0, 2])) (o_aload 0 <| o_callV G 7 m_X_freeFile 0 <| o_jmp G m_X_open Post 123 [0, 1, 2])) (o_iconst (-23) <| o_iret Post)
theorem s_X_open_109 {G : oG} {Post : oP} : oS G m_X_open Post 109 (k_X_open_109 G Post) := by
  unfold k_X_open_109
  refine so_ifge d_X_open_109 (tgt := 115) (by decide) ?_ ?_
  · refine so_iload_n d_X_open_115 rfl ?_
    refine so_ifge d_X_open_116 (tgt := 136) (by decide) ?_ ?_
    · refine so_iload_n d_X_open_136 rfl ?_
      refine so_ifge d_X_open_137 (tgt := 171) (by decide) ?_ ?_
      · exact so_jmp
      · refine so_aload_n d_X_open_140 rfl ?_
        refine so_callV cl_7 f_X_freeFile w_727 w_38 w_725 (by decide) (by decide) d_X_open_141 ?_
        exact so_jmp
    · refine so_aload_n d_X_open_119 rfl ?_
      refine so_callV cl_7 f_X_freeFile w_727 w_38 w_725 (by decide) (by decide) d_X_open_120 ?_
      exact so_jmp
  · refine so_bipush d_X_open_112 rfl ?_
    exact so_iret d_X_open_114 rfl
def k_X_open_123 (G : oG) (Post : oP) : oK := o_iflt (o_iconst (-28) <| o_iret Post) (o_aload 0 <| o_callV G 7 m_X_freeName 0 <| o_jmp G m_X_open Post 130 [0, 1, 2])
theorem s_X_open_123 {G : oG} {Post : oP} : oS G m_X_open Post 123 (k_X_open_123 G Post) := by
  unfold k_X_open_123
  refine so_iflt d_X_open_123 (tgt := 133) (by decide) ?_ ?_
  · refine so_bipush d_X_open_133 rfl ?_
    exact so_iret d_X_open_135 rfl
  · refine so_aload_n d_X_open_126 rfl ?_
    refine so_callV cl_7 f_X_freeName w_731 w_39 w_729 (by decide) (by decide) d_X_open_127 ?_
    exact so_jmp
def k_X_open_130 (G : oG) (Post : oP) : oK := o_ifge (o_iload 1 <| o_ifge (o_jmp G m_X_open Post 171 [0, 1, 2]) (o_aload 0 <| o_callV G 7 m_X_freeFile 0 <| o_jmp G m_X_open Post 144 [0, 2])) (o_iconst (-28) <| o_iret Post)
theorem s_X_open_130 {G : oG} {Post : oP} : oS G m_X_open Post 130 (k_X_open_130 G Post) := by
  unfold k_X_open_130
  refine so_ifge d_X_open_130 (tgt := 136) (by decide) ?_ ?_
  · refine so_iload_n d_X_open_136 rfl ?_
    refine so_ifge d_X_open_137 (tgt := 171) (by decide) ?_ ?_
    · exact so_jmp
    · refine so_aload_n d_X_open_140 rfl ?_
      refine so_callV cl_7 f_X_freeFile w_727 w_38 w_725 (by decide) (by decide) d_X_open_141 ?_
      exact so_jmp
  · refine so_bipush d_X_open_133 rfl ?_
    exact so_iret d_X_open_135 rfl
def k_X_open_144 (G : oG) (Post : oP) : oK := o_istore 3 <| o_aload 0 <| o_callV G 7 m_X_freeName 0 <| o_jmp G m_X_open Post 149 [0, 2, 3]
theorem s_X_open_144 {G : oG} {Post : oP} : oS G m_X_open Post 144 (k_X_open_144 G Post) := by
  unfold k_X_open_144
  refine so_istore_n d_X_open_144 rfl (by decide) ?_
  refine so_aload_n d_X_open_145 rfl ?_
  refine so_callV cl_7 f_X_freeName w_731 w_39 w_729 (by decide) (by decide) d_X_open_146 ?_
  exact so_jmp
def k_X_open_149 (G : oG) (Post : oP) : oK := o_istore 1 <| o_aload 0 <| o_getf 7 5 <| o_iload 3 <| o_iconst 1 <| o_zast <| o_aload 0 <| o_getf 7 6 <| o_iload 3 <| o_iconst 0 <| o_iast <| o_aload 0 <| o_iload 1 <| o_iconst 0 <| o_iload 3 <| o_callV G 7 m_X_give 3 <| o_jmp G m_X_open Post 171 [0, 1, 2]
theorem s_X_open_149 {G : oG} {Post : oP} : oS G m_X_open Post 149 (k_X_open_149 G Post) := by
  unfold k_X_open_149
  refine so_istore_n d_X_open_149 rfl (by decide) ?_
  refine so_aload_n d_X_open_150 rfl ?_
  refine so_getf cl_7 (k := 5) (by decide) w_567 d_X_open_151 ?_
  refine so_iload_n d_X_open_154 rfl ?_
  refine so_iconst d_X_open_155 rfl ?_
  refine so_zast d_X_open_156 ?_
  refine so_aload_n d_X_open_157 rfl ?_
  refine so_getf cl_7 (k := 6) (by decide) w_568 d_X_open_158 ?_
  refine so_iload_n d_X_open_161 rfl ?_
  refine so_iconst d_X_open_162 rfl ?_
  refine so_iast d_X_open_163 ?_
  refine so_aload_n d_X_open_164 rfl ?_
  refine so_iload_n d_X_open_165 rfl ?_
  refine so_iconst d_X_open_166 rfl ?_
  refine so_iload_n d_X_open_167 rfl ?_
  refine so_callV cl_7 f_X_give w_735 w_40 w_733 (by decide) (by decide) d_X_open_168 ?_
  exact so_jmp
def k_X_open_171 (G : oG) (Post : oP) : oK := o_aload 0 <| o_getf 7 21 <| o_iconst 8 <| o_iand <| o_ifeq (o_aload 0 <| o_iload 2 <| o_iconst 1 <| o_aload 0 <| o_getf 7 10 <| o_iload 1 <| o_iald G <| o_aload 0 <| o_getf 7 21 <| o_iconst 3 <| o_iand <| o_callV G 7 m_X_newOpen 4 <| o_jmp G m_X_open Post 211 []) (o_aload 0 <| o_getf 7 6 <| o_aload 0 <| o_getf 7 10 <| o_iload 1 <| o_iald G <| o_iconst 0 <| o_iast <| o_aload 0 <| o_iload 2 <| o_iconst 1 <| o_aload 0 <| o_getf 7 10 <| o_iload 1 <| o_iald G <| o_aload 0 <| o_getf 7 21 <| o_iconst 3 <| o_iand <| o_callV G 7 m_X_newOpen 4 <| o_jmp G m_X_open Post 211 [])
theorem s_X_open_171 {G : oG} {Post : oP} : oS G m_X_open Post 171 (k_X_open_171 G Post) := by
  unfold k_X_open_171
  refine so_aload_n d_X_open_171 rfl ?_
  refine so_getf cl_7 (k := 21) (by decide) w_583 d_X_open_172 ?_
  refine so_bipush d_X_open_175 rfl ?_
  refine so_iand d_X_open_177 ?_
  refine so_ifeq d_X_open_178 (tgt := 193) (by decide) ?_ ?_
  · refine so_aload_n d_X_open_193 rfl ?_
    refine so_iload_n d_X_open_194 rfl ?_
    refine so_iconst d_X_open_195 rfl ?_
    refine so_aload_n d_X_open_196 rfl ?_
    refine so_getf cl_7 (k := 10) (by decide) w_572 d_X_open_197 ?_
    refine so_iload_n d_X_open_200 rfl ?_
    refine so_iald d_X_open_201 ?_
    refine so_aload_n d_X_open_202 rfl ?_
    refine so_getf cl_7 (k := 21) (by decide) w_583 d_X_open_203 ?_
    refine so_iconst d_X_open_206 rfl ?_
    refine so_iand d_X_open_207 ?_
    refine so_callV cl_7 f_X_newOpen w_739 w_41 w_737 (by decide) (by decide) d_X_open_208 ?_
    exact so_jmp
  · refine so_aload_n d_X_open_181 rfl ?_
    refine so_getf cl_7 (k := 6) (by decide) w_568 d_X_open_182 ?_
    refine so_aload_n d_X_open_185 rfl ?_
    refine so_getf cl_7 (k := 10) (by decide) w_572 d_X_open_186 ?_
    refine so_iload_n d_X_open_189 rfl ?_
    refine so_iald d_X_open_190 ?_
    refine so_iconst d_X_open_191 rfl ?_
    refine so_iast d_X_open_192 ?_
    refine so_aload_n d_X_open_193 rfl ?_
    refine so_iload_n d_X_open_194 rfl ?_
    refine so_iconst d_X_open_195 rfl ?_
    refine so_aload_n d_X_open_196 rfl ?_
    refine so_getf cl_7 (k := 10) (by decide) w_572 d_X_open_197 ?_
    refine so_iload_n d_X_open_200 rfl ?_
    refine so_iald d_X_open_201 ?_
    refine so_aload_n d_X_open_202 rfl ?_
    refine so_getf cl_7 (k := 21) (by decide) w_583 d_X_open_203 ?_
    refine so_iconst d_X_open_206 rfl ?_
    refine so_iand d_X_open_207 ?_
    refine so_callV cl_7 f_X_newOpen w_739 w_41 w_737 (by decide) (by decide) d_X_open_208 ?_
    exact so_jmp
def k_X_open_211 (G : oG) (Post : oP) : oK := o_iret Post
theorem s_X_open_211 {G : oG} {Post : oP} : oS G m_X_open Post 211 (k_X_open_211 G Post) := by
  unfold k_X_open_211
  exact so_iret d_X_open_211 rfl
theorem d_X_opened_0 : decode prog_9_method_28_code 0 = .ok (.aload_n 0, 1) := by decide +kernel
theorem d_X_opened_1 : decode prog_9_method_28_code 1 = .ok (.getfield 96, 3) := by decide +kernel
theorem d_X_opened_4 : decode prog_9_method_28_code 4 = .ok (.ifCond .lt 11, 3) := by decide +kernel
theorem d_X_opened_7 : decode prog_9_method_28_code 7 = .ok (.aload_n 0, 1) := by decide +kernel
theorem d_X_opened_8 : decode prog_9_method_28_code 8 = .ok (.getfield 96, 3) := by decide +kernel
theorem d_X_opened_11 : decode prog_9_method_28_code 11 = .ok (.iconst 4, 1) := by decide +kernel
theorem d_X_opened_12 : decode prog_9_method_28_code 12 = .ok (.if_icmp .le 7, 3) := by decide +kernel
theorem d_X_opened_15 : decode prog_9_method_28_code 15 = .ok (.iconst (-1), 1) := by decide +kernel
theorem d_X_opened_16 : decode prog_9_method_28_code 16 = .ok (.goto 21, 3) := by decide +kernel
theorem d_X_opened_19 : decode prog_9_method_28_code 19 = .ok (.aload_n 0, 1) := by decide +kernel
theorem d_X_opened_20 : decode prog_9_method_28_code 20 = .ok (.getfield 62, 3) := by decide +kernel
theorem d_X_opened_23 : decode prog_9_method_28_code 23 = .ok (.iconst 5, 1) := by decide +kernel
theorem d_X_opened_24 : decode prog_9_method_28_code 24 = .ok (.aload_n 0, 1) := by decide +kernel
theorem d_X_opened_25 : decode prog_9_method_28_code 25 = .ok (.getfield 92, 3) := by decide +kernel
theorem d_X_opened_28 : decode prog_9_method_28_code 28 = .ok (.imul, 1) := by decide +kernel
theorem d_X_opened_29 : decode prog_9_method_28_code 29 = .ok (.aload_n 0, 1) := by decide +kernel
theorem d_X_opened_30 : decode prog_9_method_28_code 30 = .ok (.getfield 96, 3) := by decide +kernel
theorem d_X_opened_33 : decode prog_9_method_28_code 33 = .ok (.iadd, 1) := by decide +kernel
theorem d_X_opened_34 : decode prog_9_method_28_code 34 = .ok (.iaload, 1) := by decide +kernel
theorem d_X_opened_35 : decode prog_9_method_28_code 35 = .ok (.iconst 1, 1) := by decide +kernel
theorem d_X_opened_36 : decode prog_9_method_28_code 36 = .ok (.isub, 1) := by decide +kernel
theorem d_X_opened_37 : decode prog_9_method_28_code 37 = .ok (.ireturn, 1) := by decide +kernel
def k_X_opened_0 (G : oG) (Post : oP) : oK := o_aload 0 <| o_getf 7 20 <| o_iflt (o_iconst (-1) <| o_iret Post) (o_aload 0 <| o_getf 7 20 <| o_iconst 4 <| o_icmple (o_aload 0 <| o_getf 7 18 <| o_iconst 5 <| o_aload 0 <| o_getf 7 19 <| o_imul <| o_aload 0 <| o_getf 7 20 <| o_iadd <| o_iald G <| o_iconst 1 <| o_isub <| o_iret Post) (o_iconst (-1) <| o_iret Post))
theorem s_X_opened_0 {G : oG} {Post : oP} : oS G m_X_opened Post 0 (k_X_opened_0 G Post) := by
  unfold k_X_opened_0
  refine so_aload_n d_X_opened_0 rfl ?_
  refine so_getf cl_7 (k := 20) (by decide) w_582 d_X_opened_1 ?_
  refine so_iflt d_X_opened_4 (tgt := 15) (by decide) ?_ ?_
  · refine so_iconst d_X_opened_15 rfl ?_
    refine so_goto d_X_opened_16 (tgt := 37) (by decide) ?_
    exact so_iret d_X_opened_37 rfl
  · refine so_aload_n d_X_opened_7 rfl ?_
    refine so_getf cl_7 (k := 20) (by decide) w_582 d_X_opened_8 ?_
    refine so_iconst d_X_opened_11 rfl ?_
    refine so_icmple d_X_opened_12 (tgt := 19) (by decide) ?_ ?_
    · refine so_aload_n d_X_opened_19 rfl ?_
      refine so_getf cl_7 (k := 18) (by decide) w_580 d_X_opened_20 ?_
      refine so_iconst d_X_opened_23 rfl ?_
      refine so_aload_n d_X_opened_24 rfl ?_
      refine so_getf cl_7 (k := 19) (by decide) w_581 d_X_opened_25 ?_
      refine so_imul d_X_opened_28 ?_
      refine so_aload_n d_X_opened_29 rfl ?_
      refine so_getf cl_7 (k := 20) (by decide) w_582 d_X_opened_30 ?_
      refine so_iadd d_X_opened_33 ?_
      refine so_iald d_X_opened_34 ?_
      refine so_iconst d_X_opened_35 rfl ?_
      refine so_isub d_X_opened_36 ?_
      exact so_iret d_X_opened_37 rfl
    · refine so_iconst d_X_opened_15 rfl ?_
      refine so_goto d_X_opened_16 (tgt := 37) (by decide) ?_
      exact so_iret d_X_opened_37 rfl
theorem d_X_close_0 : decode prog_9_method_36_code 0 = .ok (.aload_n 0, 1) := by decide +kernel
theorem d_X_close_1 : decode prog_9_method_36_code 1 = .ok (.invokevirtual 200, 3) := by decide +kernel
theorem d_X_close_4 : decode prog_9_method_36_code 4 = .ok (.ifCond .ge 6, 3) := by decide +kernel
theorem d_X_close_7 : decode prog_9_method_36_code 7 = .ok (.bipush (-9), 2) := by decide +kernel
theorem d_X_close_9 : decode prog_9_method_36_code 9 = .ok (.ireturn, 1) := by decide +kernel
theorem d_X_close_10 : decode prog_9_method_36_code 10 = .ok (.aload_n 0, 1) := by decide +kernel
theorem d_X_close_11 : decode prog_9_method_36_code 11 = .ok (.getfield 62, 3) := by decide +kernel
theorem d_X_close_14 : decode prog_9_method_36_code 14 = .ok (.iconst 5, 1) := by decide +kernel
theorem d_X_close_15 : decode prog_9_method_36_code 15 = .ok (.aload_n 0, 1) := by decide +kernel
theorem d_X_close_16 : decode prog_9_method_36_code 16 = .ok (.getfield 92, 3) := by decide +kernel
theorem d_X_close_19 : decode prog_9_method_36_code 19 = .ok (.imul, 1) := by decide +kernel
theorem d_X_close_20 : decode prog_9_method_36_code 20 = .ok (.aload_n 0, 1) := by decide +kernel
theorem d_X_close_21 : decode prog_9_method_36_code 21 = .ok (.getfield 96, 3) := by decide +kernel
theorem d_X_close_24 : decode prog_9_method_36_code 24 = .ok (.iadd, 1) := by decide +kernel
theorem d_X_close_25 : decode prog_9_method_36_code 25 = .ok (.iconst 0, 1) := by decide +kernel
theorem d_X_close_26 : decode prog_9_method_36_code 26 = .ok (.iastore, 1) := by decide +kernel
theorem d_X_close_27 : decode prog_9_method_36_code 27 = .ok (.iconst 0, 1) := by decide +kernel
theorem d_X_close_28 : decode prog_9_method_36_code 28 = .ok (.ireturn, 1) := by decide +kernel
def k_X_close_0 (G : oG) (Post : oP) : oK := o_aload 0 <| o_callV G 7 m_X_opened 0 <| o_jmp G m_X_close Post 4 [0]
theorem s_X_close_0 {G : oG} {Post : oP} : oS G m_X_close Post 0 (k_X_close_0 G Post) := by
  unfold k_X_close_0
  refine so_aload_n d_X_close_0 rfl ?_
  refine so_callV cl_7 f_X_opened w_747 w_43 w_745 (by decide) (by decide) d_X_close_1 ?_
  exact so_jmp
def k_X_close_4 (G : oG) (Post : oP) : oK := o_ifge (o_aload 0 <| o_getf 7 18 <| o_iconst 5 <| o_aload 0 <| o_getf 7 19 <| o_imul <| o_aload 0 <| o_getf 7 20 <| o_iadd <| o_iconst 0 <| o_iast <| o_iconst 0 <| o_iret Post) (o_iconst (-9) <| o_iret Post)
theorem s_X_close_4 {G : oG} {Post : oP} : oS G m_X_close Post 4 (k_X_close_4 G Post) := by
  unfold k_X_close_4
  refine so_ifge d_X_close_4 (tgt := 10) (by decide) ?_ ?_
  · refine so_aload_n d_X_close_10 rfl ?_
    refine so_getf cl_7 (k := 18) (by decide) w_580 d_X_close_11 ?_
    refine so_iconst d_X_close_14 rfl ?_
    refine so_aload_n d_X_close_15 rfl ?_
    refine so_getf cl_7 (k := 19) (by decide) w_581 d_X_close_16 ?_
    refine so_imul d_X_close_19 ?_
    refine so_aload_n d_X_close_20 rfl ?_
    refine so_getf cl_7 (k := 20) (by decide) w_582 d_X_close_21 ?_
    refine so_iadd d_X_close_24 ?_
    refine so_iconst d_X_close_25 rfl ?_
    refine so_iast d_X_close_26 ?_
    refine so_iconst d_X_close_27 rfl ?_
    exact so_iret d_X_close_28 rfl
  · refine so_bipush d_X_close_7 rfl ?_
    exact so_iret d_X_close_9 rfl
theorem d_X_range_0 : decode prog_9_method_18_code 0 = .ok (.iconst 1, 1) := by decide +kernel
theorem d_X_range_1 : decode prog_9_method_18_code 1 = .ok (.istore 4, 2) := by decide +kernel
theorem d_X_range_3 : decode prog_9_method_18_code 3 = .ok (.iconst 0, 1) := by decide +kernel
theorem d_X_range_4 : decode prog_9_method_18_code 4 = .ok (.istore 5, 2) := by decide +kernel
theorem d_X_range_6 : decode prog_9_method_18_code 6 = .ok (.iload 5, 2) := by decide +kernel
theorem d_X_range_8 : decode prog_9_method_18_code 8 = .ok (.iload_n 2, 1) := by decide +kernel
theorem d_X_range_9 : decode prog_9_method_18_code 9 = .ok (.if_icmp .ge 78, 3) := by decide +kernel
theorem d_X_range_12 : decode prog_9_method_18_code 12 = .ok (.iload 4, 2) := by decide +kernel
theorem d_X_range_14 : decode prog_9_method_18_code 14 = .ok (.ifCond .eq 73, 3) := by decide +kernel
theorem d_X_range_17 : decode prog_9_method_18_code 17 = .ok (.iload_n 1, 1) := by decide +kernel
theorem d_X_range_18 : decode prog_9_method_18_code 18 = .ok (.sipush 255, 3) := by decide +kernel
theorem d_X_range_21 : decode prog_9_method_18_code 21 = .ok (.if_icmp .le 7, 3) := by decide +kernel
theorem d_X_range_24 : decode prog_9_method_18_code 24 = .ok (.iconst (-1), 1) := by decide +kernel
theorem d_X_range_25 : decode prog_9_method_18_code 25 = .ok (.goto 12, 3) := by decide +kernel
theorem d_X_range_28 : decode prog_9_method_18_code 28 = .ok (.aload_n 0, 1) := by decide +kernel
theorem d_X_range_29 : decode prog_9_method_18_code 29 = .ok (.iload_n 1, 1) := by decide +kernel
theorem d_X_range_30 : decode prog_9_method_18_code 30 = .ok (.iload 5, 2) := by decide +kernel
theorem d_X_range_32 : decode prog_9_method_18_code 32 = .ok (.iadd, 1) := by decide +kernel
theorem d_X_range_33 : decode prog_9_method_18_code 33 = .ok (.iload_n 3, 1) := by decide +kernel
theorem d_X_range_34 : decode prog_9_method_18_code 34 = .ok (.invokevirtual 159, 3) := by decide +kernel
theorem d_X_range_37 : decode prog_9_method_18_code 37 = .ok (.istore 6, 2) := by decide +kernel
theorem d_X_range_39 : decode prog_9_method_18_code 39 = .ok (.iload 6, 2) := by decide +kernel
theorem d_X_range_41 : decode prog_9_method_18_code 41 = .ok (.ifCond .lt 7, 3) := by decide +kernel
theorem d_X_range_44 : decode prog_9_method_18_code 44 = .ok (.iconst 1, 1) := by decide +kernel
theorem d_X_range_45 : decode prog_9_method_18_code 45 = .ok (.goto 4, 3) := by decide +kernel
theorem d_X_range_48 : decode prog_9_method_18_code 48 = .ok (.iconst 0, 1) := by decide +kernel
theorem d_X_range_49 : decode prog_9_method_18_code 49 = .ok (.istore 4, 2) := by decide +kernel
theorem d_X_range_51 : decode prog_9_method_18_code 51 = .ok (.aload_n 0, 1) := by decide +kernel
theorem d_X_range_52 : decode prog_9_method_18_code 52 = .ok (.getfield 65, 3) := by decide +kernel
theorem d_X_range_55 : decode prog_9_method_18_code 55 = .ok (.aload_n 0, 1) := by decide +kernel
theorem d_X_range_56 : decode prog_9_method_18_code 56 = .ok (.getfield 162, 3) := by decide +kernel
theorem d_X_range_59 : decode prog_9_method_18_code 59 = .ok (.iload 4, 2) := by decide +kernel
theorem d_X_range_61 : decode prog_9_method_18_code 61 = .ok (.ifCond .eq 8, 3) := by decide +kernel
theorem d_X_range_64 : decode prog_9_method_18_code 64 = .ok (.iload 6, 2) := by decide +kernel
theorem d_X_range_66 : decode prog_9_method_18_code 66 = .ok (.goto 4, 3) := by decide +kernel
theorem d_X_range_69 : decode prog_9_method_18_code 69 = .ok (.iconst 0, 1) := by decide +kernel
theorem d_X_range_70 : decode prog_9_method_18_code 70 = .ok (.iastore, 1) := by decide +kernel
theorem d_X_range_71 : decode prog_9_method_18_code 71 = .ok (.aload_n 0, 1) := by decide +kernel
theorem d_X_range_72 : decode prog_9_method_18_code 72 = .ok (.dup, 1) := by decide +kernel
theorem d_X_range_73 : decode prog_9_method_18_code 73 = .ok (.getfield 162, 3) := by decide +kernel
theorem d_X_range_76 : decode prog_9_method_18_code 76 = .ok (.iconst 1, 1) := by decide +kernel
theorem d_X_range_77 : decode prog_9_method_18_code 77 = .ok (.iadd, 1) := by decide +kernel
theorem d_X_range_78 : decode prog_9_method_18_code 78 = .ok (.putfield 162, 3) := by decide +kernel
theorem d_X_range_81 : decode prog_9_method_18_code 81 = .ok (.iinc 5 1, 3) := by decide +kernel
theorem d_X_range_84 : decode prog_9_method_18_code 84 = .ok (.goto (-78), 3) := by decide +kernel
theorem d_X_range_87 : decode prog_9_method_18_code 87 = .ok (.iload 4, 2) := by decide +kernel
theorem d_X_range_89 : decode prog_9_method_18_code 89 = .ok (.ireturn, 1) := by decide +kernel
def k_X_range_0 (G : oG) (Post : oP) : oK := o_iconst 1 <| o_istore 4 <| o_iconst 0 <| o_istore 5 <| o_jmp G m_X_range Post 6 [0, 1, 2, 3, 4, 5]
theorem s_X_range_0 {G : oG} {Post : oP} : oS G m_X_range Post 0 (k_X_range_0 G Post) := by
  unfold k_X_range_0
  refine so_iconst d_X_range_0 rfl ?_
  refine so_istore d_X_range_1 (by decide) ?_
  refine so_iconst d_X_range_3 rfl ?_
  refine so_istore d_X_range_4 (by decide) ?_
  exact so_jmp
def k_X_range_6 (G : oG) (Post : oP) : oK := o_iload 5 <| o_iload 2 <| o_icmpge (o_iload 4 <| o_zret Post) (o_iload 4 <| o_ifeq (o_iload 4 <| o_zret Post) (o_iload 1 <| o_iconst 255 <| o_icmple (o_aload 0 <| o_iload 1 <| o_iload 5 <| o_iadd <| o_iload 3 <| o_callV G 7 m_X_place 2 <| o_jmp G m_X_range Post 37 [0, 1, 2, 3, 5]) (o_iconst (-1) <| o_jmp G m_X_range Post 37 [0, 1, 2, 3, 5])))
theorem s_X_range_6 {G : oG} {Post : oP} : oS G m_X_range Post 6 (k_X_range_6 G Post) := by
  unfold k_X_range_6
  refine so_iload d_X_range_6 ?_
  refine so_iload_n d_X_range_8 rfl ?_
  refine so_icmpge d_X_range_9 (tgt := 87) (by decide) ?_ ?_
  · refine so_iload d_X_range_87 ?_
    exact so_zret d_X_range_89 rfl
  · refine so_iload d_X_range_12 ?_
    refine so_ifeq d_X_range_14 (tgt := 87) (by decide) ?_ ?_
    · refine so_iload d_X_range_87 ?_
      exact so_zret d_X_range_89 rfl
    · refine so_iload_n d_X_range_17 rfl ?_
      refine so_sipush d_X_range_18 rfl ?_
      refine so_icmple d_X_range_21 (tgt := 28) (by decide) ?_ ?_
      · refine so_aload_n d_X_range_28 rfl ?_
        refine so_iload_n d_X_range_29 rfl ?_
        refine so_iload d_X_range_30 ?_
        refine so_iadd d_X_range_32 ?_
        refine so_iload_n d_X_range_33 rfl ?_
        refine so_callV cl_7 f_X_place w_707 w_33 w_705 (by decide) (by decide) d_X_range_34 ?_
        exact so_jmp
      · refine so_iconst d_X_range_24 rfl ?_
        refine so_goto d_X_range_25 (tgt := 37) (by decide) ?_
        exact so_jmp
def k_X_range_37 (G : oG) (Post : oP) : oK := o_istore 6 <| o_iload 6 <| o_iflt (o_jmp G m_X_range Post 48 [0, 1, 2, 3, 5, 6]) (o_iconst 1 <| o_jmp G m_X_range Post 49 [0, 1, 2, 3, 5, 6])
theorem s_X_range_37 {G : oG} {Post : oP} : oS G m_X_range Post 37 (k_X_range_37 G Post) := by
  unfold k_X_range_37
  refine so_istore d_X_range_37 (by decide) ?_
  refine so_iload d_X_range_39 ?_
  refine so_iflt d_X_range_41 (tgt := 48) (by decide) ?_ ?_
  · exact so_jmp
  · refine so_iconst d_X_range_44 rfl ?_
    refine so_goto d_X_range_45 (tgt := 49) (by decide) ?_
    exact so_jmp
def k_X_range_48 (G : oG) (Post : oP) : oK := o_iconst 0 <| o_jmp G m_X_range Post 49 [0, 1, 2, 3, 5, 6]
theorem s_X_range_48 {G : oG} {Post : oP} : oS G m_X_range Post 48 (k_X_range_48 G Post) := by
  unfold k_X_range_48
  refine so_iconst d_X_range_48 rfl ?_
  exact so_jmp
def k_X_range_49 (G : oG) (Post : oP) : oK := o_istore 4 <| o_aload 0 <| o_getf 7 24 <| o_aload 0 <| o_getf 7 23 <| o_iload 4 <| o_ifeq (o_iconst 0 <| o_iast <| o_aload 0 <| o_dup <| o_getf 7 23 <| o_iconst 1 <| o_iadd <| o_putfI 7 23 <| o_iinc 5 1 <| o_jmp G m_X_range Post 6 [0, 1, 2, 3, 4, 5]) (o_iload 6 <| o_iast <| o_aload 0 <| o_dup <| o_getf 7 23 <| o_iconst 1 <| o_iadd <| o_putfI 7 23 <| o_iinc 5 1 <| o_jmp G m_X_range Post 6 [0, 1, 2, 3, 4, 5])
theorem s_X_range_49 {G : oG} {Post : oP} : oS G m_X_range Post 49 (k_X_range_49 G Post) := by
  unfold k_X_range_49
  refine so_istore d_X_range_49 (by decide) ?_
  refine so_aload_n d_X_range_51 rfl ?_
  refine so_getf cl_7 (k := 24) (by decide) w_586 d_X_range_52 ?_
  refine so_aload_n d_X_range_55 rfl ?_
  refine so_getf cl_7 (k := 23) (by decide) w_585 d_X_range_56 ?_
  refine so_iload d_X_range_59 ?_
  refine so_ifeq d_X_range_61 (tgt := 69) (by decide) ?_ ?_
  · refine so_iconst d_X_range_69 rfl ?_
    refine so_iast d_X_range_70 ?_
    refine so_aload_n d_X_range_71 rfl ?_
    refine so_dup d_X_range_72 ?_
    refine so_getf cl_7 (k := 23) (by decide) w_585 d_X_range_73 ?_
    refine so_iconst d_X_range_76 rfl ?_
    refine so_iadd d_X_range_77 ?_
    refine so_putfI cl_7 (k := 23) (by decide) rfl rfl w_585 d_X_range_78 ?_
    refine so_iinc d_X_range_81 rfl (by decide) ?_
    refine so_goto d_X_range_84 (tgt := 6) (by decide) ?_
    exact so_jmp
  · refine so_iload d_X_range_64 ?_
    refine so_goto d_X_range_66 (tgt := 70) (by decide) ?_
    refine so_iast d_X_range_70 ?_
    refine so_aload_n d_X_range_71 rfl ?_
    refine so_dup d_X_range_72 ?_
    refine so_getf cl_7 (k := 23) (by decide) w_585 d_X_range_73 ?_
    refine so_iconst d_X_range_76 rfl ?_
    refine so_iadd d_X_range_77 ?_
    refine so_putfI cl_7 (k := 23) (by decide) rfl rfl w_585 d_X_range_78 ?_
    refine so_iinc d_X_range_81 rfl (by decide) ?_
    refine so_goto d_X_range_84 (tgt := 6) (by decide) ?_
    exact so_jmp
