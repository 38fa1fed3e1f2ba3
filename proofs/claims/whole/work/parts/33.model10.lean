theorem mTb_y2 {τ : yM} {c k : Nat} {v : Int} (h : mTb τ) (hc : c ≠ 1 ∧ c ≠ 2) : mTb (y2 τ c k v) := mTb_to h (y2_ne (fun e => hc.1 e.symm)) (y2_ne (fun e => hc.2 e.symm))
theorem y2_id {σ : yM} {c k : Nat} {v : Int} (h : v = σ c k) : y2 σ c k v = σ := by
  funext d j
  unfold y2
  by_cases e : d = c
  · subst e
    rw [if_pos rfl]
    by_cases e2 : j = k
    · subst e2; rw [if_pos rfl, h]
    · rw [if_neg e2]
  · rw [if_neg e]
theorem d_M_output_0 : decode b_M_output 0 = .ok (.aload_n 0, 1) := by decide +kernel
theorem d_M_output_1 : decode b_M_output 1 = .ok (.iload_n 1, 1) := by decide +kernel
theorem d_M_output_2 : decode b_M_output 2 = .ok (.invokevirtual 124, 3) := by decide +kernel
theorem d_M_output_5 : decode b_M_output 5 = .ok (.ifCond .eq 45, 3) := by decide +kernel
theorem d_M_output_8 : decode b_M_output 8 = .ok (.iload_n 2, 1) := by decide +kernel
theorem d_M_output_9 : decode b_M_output 9 = .ok (.iconst 0, 1) := by decide +kernel
theorem d_M_output_10 : decode b_M_output 10 = .ok (.sipush 999, 3) := by decide +kernel
theorem d_M_output_13 : decode b_M_output 13 = .ok (.invokestatic 110, 3) := by decide +kernel
theorem d_M_output_16 : decode b_M_output 16 = .ok (.ifCond .eq 34, 3) := by decide +kernel
theorem d_M_output_19 : decode b_M_output 19 = .ok (.iload_n 3, 1) := by decide +kernel
theorem d_M_output_20 : decode b_M_output 20 = .ok (.invokestatic 165, 3) := by decide +kernel
theorem d_M_output_23 : decode b_M_output 23 = .ok (.ifCond .eq 27, 3) := by decide +kernel
theorem d_M_output_26 : decode b_M_output 26 = .ok (.iload 4, 2) := by decide +kernel
theorem d_M_output_28 : decode b_M_output 28 = .ok (.invokestatic 165, 3) := by decide +kernel
theorem d_M_output_31 : decode b_M_output 31 = .ok (.ifCond .eq 19, 3) := by decide +kernel
theorem d_M_output_34 : decode b_M_output 34 = .ok (.iload 5, 2) := by decide +kernel
theorem d_M_output_36 : decode b_M_output 36 = .ok (.invokestatic 165, 3) := by decide +kernel
theorem d_M_output_39 : decode b_M_output 39 = .ok (.ifCond .eq 11, 3) := by decide +kernel
theorem d_M_output_42 : decode b_M_output 42 = .ok (.aload_n 0, 1) := by decide +kernel
theorem d_M_output_43 : decode b_M_output 43 = .ok (.getfield 156, 3) := by decide +kernel
theorem d_M_output_46 : decode b_M_output 46 = .ok (.iconst 2, 1) := by decide +kernel
theorem d_M_output_47 : decode b_M_output 47 = .ok (.if_icmp .ne 5, 3) := by decide +kernel
theorem d_M_output_50 : decode b_M_output 50 = .ok (.iconst 0, 1) := by decide +kernel
theorem d_M_output_51 : decode b_M_output 51 = .ok (.ireturn, 1) := by decide +kernel
theorem d_M_output_52 : decode b_M_output 52 = .ok (.aload_n 0, 1) := by decide +kernel
theorem d_M_output_53 : decode b_M_output 53 = .ok (.getfield 156, 3) := by decide +kernel
theorem d_M_output_56 : decode b_M_output 56 = .ok (.istore 6, 2) := by decide +kernel
theorem d_M_output_58 : decode b_M_output 58 = .ok (.aload_n 0, 1) := by decide +kernel
theorem d_M_output_59 : decode b_M_output 59 = .ok (.getfield 43, 3) := by decide +kernel
theorem d_M_output_62 : decode b_M_output 62 = .ok (.iload 6, 2) := by decide +kernel
theorem d_M_output_64 : decode b_M_output 64 = .ok (.iload_n 1, 1) := by decide +kernel
theorem d_M_output_65 : decode b_M_output 65 = .ok (.iastore, 1) := by decide +kernel
theorem d_M_output_66 : decode b_M_output 66 = .ok (.aload_n 0, 1) := by decide +kernel
theorem d_M_output_67 : decode b_M_output 67 = .ok (.getfield 46, 3) := by decide +kernel
theorem d_M_output_70 : decode b_M_output 70 = .ok (.iload 6, 2) := by decide +kernel
theorem d_M_output_72 : decode b_M_output 72 = .ok (.iload_n 2, 1) := by decide +kernel
theorem d_M_output_73 : decode b_M_output 73 = .ok (.iastore, 1) := by decide +kernel
theorem d_M_output_74 : decode b_M_output 74 = .ok (.aload_n 0, 1) := by decide +kernel
theorem d_M_output_75 : decode b_M_output 75 = .ok (.getfield 49, 3) := by decide +kernel
theorem d_M_output_78 : decode b_M_output 78 = .ok (.iload 6, 2) := by decide +kernel
theorem d_M_output_80 : decode b_M_output 80 = .ok (.iload_n 3, 1) := by decide +kernel
theorem d_M_output_81 : decode b_M_output 81 = .ok (.iastore, 1) := by decide +kernel
theorem d_M_output_82 : decode b_M_output 82 = .ok (.aload_n 0, 1) := by decide +kernel
theorem d_M_output_83 : decode b_M_output 83 = .ok (.getfield 52, 3) := by decide +kernel
theorem d_M_output_86 : decode b_M_output 86 = .ok (.iload 6, 2) := by decide +kernel
theorem d_M_output_88 : decode b_M_output 88 = .ok (.iload 5, 2) := by decide +kernel
theorem d_M_output_90 : decode b_M_output 90 = .ok (.iastore, 1) := by decide +kernel
theorem d_M_output_91 : decode b_M_output 91 = .ok (.aload_n 0, 1) := by decide +kernel
theorem d_M_output_92 : decode b_M_output 92 = .ok (.getfield 55, 3) := by decide +kernel
theorem d_M_output_95 : decode b_M_output 95 = .ok (.iload 6, 2) := by decide +kernel
theorem d_M_output_97 : decode b_M_output 97 = .ok (.aload_n 0, 1) := by decide +kernel
theorem d_M_output_98 : decode b_M_output 98 = .ok (.iload_n 1, 1) := by decide +kernel
theorem d_M_output_99 : decode b_M_output 99 = .ok (.iload_n 2, 1) := by decide +kernel
theorem d_M_output_100 : decode b_M_output 100 = .ok (.iload_n 3, 1) := by decide +kernel
theorem d_M_output_101 : decode b_M_output 101 = .ok (.invokevirtual 140, 3) := by decide +kernel
theorem d_M_output_104 : decode b_M_output 104 = .ok (.iastore, 1) := by decide +kernel
theorem d_M_output_105 : decode b_M_output 105 = .ok (.aload_n 0, 1) := by decide +kernel
theorem d_M_output_106 : decode b_M_output 106 = .ok (.getfield 58, 3) := by decide +kernel
theorem d_M_output_109 : decode b_M_output 109 = .ok (.iload 6, 2) := by decide +kernel
theorem d_M_output_111 : decode b_M_output 111 = .ok (.iload 4, 2) := by decide +kernel
theorem d_M_output_113 : decode b_M_output 113 = .ok (.iastore, 1) := by decide +kernel
theorem d_M_output_114 : decode b_M_output 114 = .ok (.aload_n 0, 1) := by decide +kernel
theorem d_M_output_115 : decode b_M_output 115 = .ok (.getfield 61, 3) := by decide +kernel
theorem d_M_output_118 : decode b_M_output 118 = .ok (.iload 6, 2) := by decide +kernel
theorem d_M_output_120 : decode b_M_output 120 = .ok (.iload_n 2, 1) := by decide +kernel
theorem d_M_output_121 : decode b_M_output 121 = .ok (.aload_n 0, 1) := by decide +kernel
theorem d_M_output_122 : decode b_M_output 122 = .ok (.getfield 7, 3) := by decide +kernel
theorem d_M_output_125 : decode b_M_output 125 = .ok (.aload_n 0, 1) := by decide +kernel
theorem d_M_output_126 : decode b_M_output 126 = .ok (.iload_n 1, 1) := by decide +kernel
theorem d_M_output_127 : decode b_M_output 127 = .ok (.iload 4, 2) := by decide +kernel
theorem d_M_output_129 : decode b_M_output 129 = .ok (.invokevirtual 128, 3) := by decide +kernel
theorem d_M_output_132 : decode b_M_output 132 = .ok (.iaload, 1) := by decide +kernel
theorem d_M_output_133 : decode b_M_output 133 = .ok (.iadd, 1) := by decide +kernel
theorem d_M_output_134 : decode b_M_output 134 = .ok (.sipush 1000, 3) := by decide +kernel
theorem d_M_output_137 : decode b_M_output 137 = .ok (.irem, 1) := by decide +kernel
theorem d_M_output_138 : decode b_M_output 138 = .ok (.iastore, 1) := by decide +kernel
theorem d_M_output_139 : decode b_M_output 139 = .ok (.aload_n 0, 1) := by decide +kernel
theorem d_M_output_140 : decode b_M_output 140 = .ok (.getfield 64, 3) := by decide +kernel
theorem d_M_output_143 : decode b_M_output 143 = .ok (.iload 6, 2) := by decide +kernel
theorem d_M_output_145 : decode b_M_output 145 = .ok (.iload_n 3, 1) := by decide +kernel
theorem d_M_output_146 : decode b_M_output 146 = .ok (.aload_n 0, 1) := by decide +kernel
theorem d_M_output_147 : decode b_M_output 147 = .ok (.getfield 13, 3) := by decide +kernel
theorem d_M_output_150 : decode b_M_output 150 = .ok (.aload_n 0, 1) := by decide +kernel
theorem d_M_output_151 : decode b_M_output 151 = .ok (.iload_n 1, 1) := by decide +kernel
theorem d_M_output_152 : decode b_M_output 152 = .ok (.iload 4, 2) := by decide +kernel
theorem d_M_output_154 : decode b_M_output 154 = .ok (.invokevirtual 128, 3) := by decide +kernel
theorem d_M_output_157 : decode b_M_output 157 = .ok (.iaload, 1) := by decide +kernel
theorem d_M_output_158 : decode b_M_output 158 = .ok (.iadd, 1) := by decide +kernel
theorem d_M_output_159 : decode b_M_output 159 = .ok (.sipush 2473, 3) := by decide +kernel
theorem d_M_output_162 : decode b_M_output 162 = .ok (.irem, 1) := by decide +kernel
theorem d_M_output_163 : decode b_M_output 163 = .ok (.iastore, 1) := by decide +kernel
theorem d_M_output_164 : decode b_M_output 164 = .ok (.aload_n 0, 1) := by decide +kernel
theorem d_M_output_165 : decode b_M_output 165 = .ok (.dup, 1) := by decide +kernel
theorem d_M_output_166 : decode b_M_output 166 = .ok (.getfield 156, 3) := by decide +kernel
theorem d_M_output_169 : decode b_M_output 169 = .ok (.iconst 1, 1) := by decide +kernel
theorem d_M_output_170 : decode b_M_output 170 = .ok (.iadd, 1) := by decide +kernel
theorem d_M_output_171 : decode b_M_output 171 = .ok (.putfield 156, 3) := by decide +kernel
theorem d_M_output_174 : decode b_M_output 174 = .ok (.iconst 1, 1) := by decide +kernel
theorem d_M_output_175 : decode b_M_output 175 = .ok (.ireturn, 1) := by decide +kernel
theorem d_M_alter_0 : decode b_M_alter 0 = .ok (.iload_n 1, 1) := by decide +kernel
theorem d_M_alter_1 : decode b_M_alter 1 = .ok (.iconst 2, 1) := by decide +kernel
theorem d_M_alter_2 : decode b_M_alter 2 = .ok (.if_icmp .eq 8, 3) := by decide +kernel
theorem d_M_alter_5 : decode b_M_alter 5 = .ok (.iload_n 1, 1) := by decide +kernel
theorem d_M_alter_6 : decode b_M_alter 6 = .ok (.iconst 4, 1) := by decide +kernel
theorem d_M_alter_7 : decode b_M_alter 7 = .ok (.if_icmp .ne 9, 3) := by decide +kernel
theorem d_M_alter_10 : decode b_M_alter 10 = .ok (.sipush 999, 3) := by decide +kernel
theorem d_M_alter_13 : decode b_M_alter 13 = .ok (.goto 17, 3) := by decide +kernel
theorem d_M_alter_16 : decode b_M_alter 16 = .ok (.iload_n 1, 1) := by decide +kernel
theorem d_M_alter_17 : decode b_M_alter 17 = .ok (.iconst 5, 1) := by decide +kernel
theorem d_M_alter_18 : decode b_M_alter 18 = .ok (.if_icmp .ne 9, 3) := by decide +kernel
theorem d_M_alter_21 : decode b_M_alter 21 = .ok (.sipush 2472, 3) := by decide +kernel
theorem d_M_alter_24 : decode b_M_alter 24 = .ok (.goto 6, 3) := by decide +kernel
theorem d_M_alter_27 : decode b_M_alter 27 = .ok (.sipush 10008, 3) := by decide +kernel
theorem d_M_alter_30 : decode b_M_alter 30 = .ok (.istore_n 3, 1) := by decide +kernel
theorem d_M_alter_31 : decode b_M_alter 31 = .ok (.iload_n 1, 1) := by decide +kernel
theorem d_M_alter_32 : decode b_M_alter 32 = .ok (.iconst 5, 1) := by decide +kernel
theorem d_M_alter_33 : decode b_M_alter 33 = .ok (.if_icmp .ne 7, 3) := by decide +kernel
theorem d_M_alter_36 : decode b_M_alter 36 = .ok (.iconst 1, 1) := by decide +kernel
theorem d_M_alter_37 : decode b_M_alter 37 = .ok (.goto 36, 3) := by decide +kernel
theorem d_M_alter_40 : decode b_M_alter 40 = .ok (.iload_n 1, 1) := by decide +kernel
theorem d_M_alter_41 : decode b_M_alter 41 = .ok (.iconst 0, 1) := by decide +kernel
theorem d_M_alter_42 : decode b_M_alter 42 = .ok (.iconst 2, 1) := by decide +kernel
theorem d_M_alter_43 : decode b_M_alter 43 = .ok (.invokestatic 110, 3) := by decide +kernel
theorem d_M_alter_46 : decode b_M_alter 46 = .ok (.ifCond .eq 10, 3) := by decide +kernel
theorem d_M_alter_49 : decode b_M_alter 49 = .ok (.aload_n 0, 1) := by decide +kernel
theorem d_M_alter_50 : decode b_M_alter 50 = .ok (.getfield 153, 3) := by decide +kernel
theorem d_M_alter_53 : decode b_M_alter 53 = .ok (.goto 20, 3) := by decide +kernel
theorem d_M_alter_56 : decode b_M_alter 56 = .ok (.iload_n 1, 1) := by decide +kernel
theorem d_M_alter_57 : decode b_M_alter 57 = .ok (.iconst 3, 1) := by decide +kernel
theorem d_M_alter_58 : decode b_M_alter 58 = .ok (.iconst 4, 1) := by decide +kernel
theorem d_M_alter_59 : decode b_M_alter 59 = .ok (.invokestatic 110, 3) := by decide +kernel
theorem d_M_alter_62 : decode b_M_alter 62 = .ok (.ifCond .eq 10, 3) := by decide +kernel
theorem d_M_alter_65 : decode b_M_alter 65 = .ok (.aload_n 0, 1) := by decide +kernel
theorem d_M_alter_66 : decode b_M_alter 66 = .ok (.getfield 156, 3) := by decide +kernel
theorem d_M_alter_69 : decode b_M_alter 69 = .ok (.goto 4, 3) := by decide +kernel
theorem d_M_alter_72 : decode b_M_alter 72 = .ok (.iconst 0, 1) := by decide +kernel
theorem d_M_alter_73 : decode b_M_alter 73 = .ok (.istore 4, 2) := by decide +kernel
theorem d_M_alter_75 : decode b_M_alter 75 = .ok (.iload 4, 2) := by decide +kernel
theorem d_M_alter_77 : decode b_M_alter 77 = .ok (.ifCond .eq 12, 3) := by decide +kernel
theorem d_M_alter_80 : decode b_M_alter 80 = .ok (.iload_n 2, 1) := by decide +kernel
theorem d_M_alter_81 : decode b_M_alter 81 = .ok (.iconst 0, 1) := by decide +kernel
theorem d_M_alter_82 : decode b_M_alter 82 = .ok (.iload_n 3, 1) := by decide +kernel
theorem d_M_alter_83 : decode b_M_alter 83 = .ok (.invokestatic 110, 3) := by decide +kernel
theorem d_M_alter_86 : decode b_M_alter 86 = .ok (.ifCond .ne 5, 3) := by decide +kernel
theorem d_M_alter_89 : decode b_M_alter 89 = .ok (.iconst 0, 1) := by decide +kernel
theorem d_M_alter_90 : decode b_M_alter 90 = .ok (.ireturn, 1) := by decide +kernel
theorem d_M_alter_91 : decode b_M_alter 91 = .ok (.aload_n 0, 1) := by decide +kernel
theorem d_M_alter_92 : decode b_M_alter 92 = .ok (.getfield 34, 3) := by decide +kernel
theorem d_M_alter_95 : decode b_M_alter 95 = .ok (.iconst 0, 1) := by decide +kernel
theorem d_M_alter_96 : decode b_M_alter 96 = .ok (.iload_n 1, 1) := by decide +kernel
theorem d_M_alter_97 : decode b_M_alter 97 = .ok (.ifCond .ne 7, 3) := by decide +kernel
theorem d_M_alter_100 : decode b_M_alter 100 = .ok (.iload_n 2, 1) := by decide +kernel
theorem d_M_alter_101 : decode b_M_alter 101 = .ok (.goto 9, 3) := by decide +kernel
theorem d_M_alter_104 : decode b_M_alter 104 = .ok (.aload_n 0, 1) := by decide +kernel
theorem d_M_alter_105 : decode b_M_alter 105 = .ok (.getfield 34, 3) := by decide +kernel
theorem d_M_alter_108 : decode b_M_alter 108 = .ok (.iconst 0, 1) := by decide +kernel
theorem d_M_alter_109 : decode b_M_alter 109 = .ok (.iaload, 1) := by decide +kernel
theorem d_M_alter_110 : decode b_M_alter 110 = .ok (.iastore, 1) := by decide +kernel
theorem d_M_alter_111 : decode b_M_alter 111 = .ok (.aload_n 0, 1) := by decide +kernel
theorem d_M_alter_112 : decode b_M_alter 112 = .ok (.getfield 37, 3) := by decide +kernel
theorem d_M_alter_115 : decode b_M_alter 115 = .ok (.iconst 0, 1) := by decide +kernel
theorem d_M_alter_116 : decode b_M_alter 116 = .ok (.iload_n 1, 1) := by decide +kernel
theorem d_M_alter_117 : decode b_M_alter 117 = .ok (.iconst 1, 1) := by decide +kernel
theorem d_M_alter_118 : decode b_M_alter 118 = .ok (.if_icmp .ne 7, 3) := by decide +kernel
theorem d_M_alter_121 : decode b_M_alter 121 = .ok (.iload_n 2, 1) := by decide +kernel
theorem d_M_alter_122 : decode b_M_alter 122 = .ok (.goto 9, 3) := by decide +kernel
theorem d_M_alter_125 : decode b_M_alter 125 = .ok (.aload_n 0, 1) := by decide +kernel
theorem d_M_alter_126 : decode b_M_alter 126 = .ok (.getfield 37, 3) := by decide +kernel
theorem d_M_alter_129 : decode b_M_alter 129 = .ok (.iconst 0, 1) := by decide +kernel
theorem d_M_alter_130 : decode b_M_alter 130 = .ok (.iaload, 1) := by decide +kernel
theorem d_M_alter_131 : decode b_M_alter 131 = .ok (.iastore, 1) := by decide +kernel
theorem d_M_alter_132 : decode b_M_alter 132 = .ok (.aload_n 0, 1) := by decide +kernel
theorem d_M_alter_133 : decode b_M_alter 133 = .ok (.getfield 25, 3) := by decide +kernel
theorem d_M_alter_136 : decode b_M_alter 136 = .ok (.iconst 0, 1) := by decide +kernel
theorem d_M_alter_137 : decode b_M_alter 137 = .ok (.iload_n 1, 1) := by decide +kernel
theorem d_M_alter_138 : decode b_M_alter 138 = .ok (.iconst 2, 1) := by decide +kernel
theorem d_M_alter_139 : decode b_M_alter 139 = .ok (.if_icmp .ne 7, 3) := by decide +kernel
theorem d_M_alter_142 : decode b_M_alter 142 = .ok (.iload_n 2, 1) := by decide +kernel
theorem d_M_alter_143 : decode b_M_alter 143 = .ok (.goto 9, 3) := by decide +kernel
theorem d_M_alter_146 : decode b_M_alter 146 = .ok (.aload_n 0, 1) := by decide +kernel
theorem d_M_alter_147 : decode b_M_alter 147 = .ok (.getfield 25, 3) := by decide +kernel
theorem d_M_alter_150 : decode b_M_alter 150 = .ok (.iconst 0, 1) := by decide +kernel
theorem d_M_alter_151 : decode b_M_alter 151 = .ok (.iaload, 1) := by decide +kernel
theorem d_M_alter_152 : decode b_M_alter 152 = .ok (.iastore, 1) := by decide +kernel
theorem d_M_alter_153 : decode b_M_alter 153 = .ok (.aload_n 0, 1) := by decide +kernel
theorem d_M_alter_154 : decode b_M_alter 154 = .ok (.getfield 55, 3) := by decide +kernel
theorem d_M_alter_157 : decode b_M_alter 157 = .ok (.iconst 0, 1) := by decide +kernel
theorem d_M_alter_158 : decode b_M_alter 158 = .ok (.iload_n 1, 1) := by decide +kernel
theorem d_M_alter_159 : decode b_M_alter 159 = .ok (.iconst 3, 1) := by decide +kernel
theorem d_M_alter_160 : decode b_M_alter 160 = .ok (.if_icmp .ne 7, 3) := by decide +kernel
theorem d_M_alter_163 : decode b_M_alter 163 = .ok (.iload_n 2, 1) := by decide +kernel
theorem d_M_alter_164 : decode b_M_alter 164 = .ok (.goto 9, 3) := by decide +kernel
theorem d_M_alter_167 : decode b_M_alter 167 = .ok (.aload_n 0, 1) := by decide +kernel
theorem d_M_alter_168 : decode b_M_alter 168 = .ok (.getfield 55, 3) := by decide +kernel
theorem d_M_alter_171 : decode b_M_alter 171 = .ok (.iconst 0, 1) := by decide +kernel
theorem d_M_alter_172 : decode b_M_alter 172 = .ok (.iaload, 1) := by decide +kernel
theorem d_M_alter_173 : decode b_M_alter 173 = .ok (.iastore, 1) := by decide +kernel
theorem d_M_alter_174 : decode b_M_alter 174 = .ok (.aload_n 0, 1) := by decide +kernel
theorem d_M_alter_175 : decode b_M_alter 175 = .ok (.getfield 61, 3) := by decide +kernel
theorem d_M_alter_178 : decode b_M_alter 178 = .ok (.iconst 0, 1) := by decide +kernel
theorem d_M_alter_179 : decode b_M_alter 179 = .ok (.iload_n 1, 1) := by decide +kernel
theorem d_M_alter_180 : decode b_M_alter 180 = .ok (.iconst 4, 1) := by decide +kernel
theorem d_M_alter_181 : decode b_M_alter 181 = .ok (.if_icmp .ne 7, 3) := by decide +kernel
theorem d_M_alter_184 : decode b_M_alter 184 = .ok (.iload_n 2, 1) := by decide +kernel
theorem d_M_alter_185 : decode b_M_alter 185 = .ok (.goto 9, 3) := by decide +kernel
theorem d_M_alter_188 : decode b_M_alter 188 = .ok (.aload_n 0, 1) := by decide +kernel
theorem d_M_alter_189 : decode b_M_alter 189 = .ok (.getfield 61, 3) := by decide +kernel
theorem d_M_alter_192 : decode b_M_alter 192 = .ok (.iconst 0, 1) := by decide +kernel
theorem d_M_alter_193 : decode b_M_alter 193 = .ok (.iaload, 1) := by decide +kernel
theorem d_M_alter_194 : decode b_M_alter 194 = .ok (.iastore, 1) := by decide +kernel
theorem d_M_alter_195 : decode b_M_alter 195 = .ok (.aload_n 0, 1) := by decide +kernel
theorem d_M_alter_196 : decode b_M_alter 196 = .ok (.iload_n 1, 1) := by decide +kernel
theorem d_M_alter_197 : decode b_M_alter 197 = .ok (.iconst 5, 1) := by decide +kernel
theorem d_M_alter_198 : decode b_M_alter 198 = .ok (.if_icmp .ne 7, 3) := by decide +kernel
theorem d_M_alter_201 : decode b_M_alter 201 = .ok (.iload_n 2, 1) := by decide +kernel
theorem d_M_alter_202 : decode b_M_alter 202 = .ok (.goto 7, 3) := by decide +kernel
theorem d_M_alter_205 : decode b_M_alter 205 = .ok (.aload_n 0, 1) := by decide +kernel
theorem d_M_alter_206 : decode b_M_alter 206 = .ok (.getfield 162, 3) := by decide +kernel
theorem d_M_alter_209 : decode b_M_alter 209 = .ok (.putfield 162, 3) := by decide +kernel
theorem d_M_alter_212 : decode b_M_alter 212 = .ok (.iconst 1, 1) := by decide +kernel
theorem d_M_alter_213 : decode b_M_alter 213 = .ok (.ireturn, 1) := by decide +kernel

def ouM (τ : yM) (no kn : Nat) (k v9 t9 e9 w9 : Int) : yM := (y2 (y2 (y2 (y2 (y2 (y2 (y2 (y2 (y2 τ 12 no (k)) 13 no (v9)) 14 no (t9)) 15 no (w9)) 16 no (cOf (τ 3 kn) v9 t9)) 17 no (e9)) 18 no ((v9 + eX (τ 3 kn * e9)) % 1000)) 19 no ((t9 + eY (τ 3 kn * e9)) % 2473)) 0 13 ((no : Int) + 1))
set_option maxHeartbeats 4000000 in
set_option maxRecDepth 100000 in
theorem c_M_output (l : Launch) (G : yG) (z : Nat) (τ : yM) (hTb : mTb τ) (nk : Nat) (hnk : nk ≤ 4) (hk0 : τ 0 2 = (nk : Int)) (hsec : ∀ k, k < nk → 1 ≤ τ 3 k ∧ τ 3 k ≤ 2472) (no : Nat) (hno : no ≤ 2) (ho : τ 0 13 = (no : Int)) (k v9 t9 e9 w9 : Int) (hk9 : jr k) (hv9 : jr v9) (ht9 : jr t9) (he9 : jr e9) (hw9 : jr w9) : Met l y_M_output (Cond.code y_M_output b_M_output 7 (some .boolean) :: yT) ({ frames := 2, cells := 0, slots := 0, locals := 43 } : Room) (yP ycl G yLM 0 28 z τ (yK G) [.ref (z + 0), .int (J (k)), .int (J (v9)), .int (J (t9)), .int (J (e9)), .int (J (w9))]) (yQg ycl G yLM 0 28 z (fun x ρ => (((0 ≤ k ∧ k < (nk : Int)) ∧ (0 ≤ v9 ∧ v9 < 1000) ∧ (0 ≤ t9 ∧ t9 < 2473) ∧ (0 ≤ e9 ∧ e9 < 2473) ∧ (0 ≤ w9 ∧ w9 < 2473) ∧ no ≠ 2) → x = 1 ∧ ρ = ouM τ no k.toNat k v9 t9 e9 w9) ∧ (¬ ((0 ≤ k ∧ k < (nk : Int)) ∧ (0 ≤ v9 ∧ v9 < 1000) ∧ (0 ≤ t9 ∧ t9 < 2473) ∧ (0 ≤ e9 ∧ e9 < 2473) ∧ (0 ≤ w9 ∧ w9 < 2473) ∧ no ≠ 2) → x = 0 ∧ ρ = τ))) 0 0 (yA z 0 28) := by
  refine y_met (by decide +kernel) (Nat.le_of_ble_eq_true rfl) ?_
  intro p e s m below meth c ls hx hb hr hml hlocks hown hname hts hv hl
  have hA : ∀ w ∈ yT, w.before _ s = true := fun w h => hts w (List.mem_cons_of_mem _ h)
  have hl : lv_has ls 7 [(0, .ref (z + 0)), (1, .int (J (k))), (2, .int (J (v9))), (3, .int (J (t9))), (4, .int (J (e9))), (5, .int (J (w9)))] := hl
  obtain ⟨hW, hK⟩ := hv
  have hS : va_S (yA z 0 28) s.heap s.heap [] := va_S.rf
  have hAr : ∀ d, 0 ≤ d ∧ d < 0 + 28 → yA z 0 28 (z + d) := yA_all
  refine lv_aload_n hx hb d_M_output_0 rfl (lv_at hl 0 rfl) ?_
  refine lv_iload_n hx hb d_M_output_1 rfl (lv_at hl 1 rfl) ?_
  refine y_ci (y_runV (As := [.int (J (k))]) (rest := []) ⟨hx, hb, hml, hown, hts⟩ (c_M_isKey l G z τ nk hnk hk0 (k) hk9) 1 k_co_M_isKey k_ml_M_124 k_im_M_isKey k_se_M_isKey k_in_M rfl rfl (by decide +kernel) ⟨Nat.le_of_ble_eq_true rfl, Nat.le_of_ble_eq_true rfl⟩ (yPv (yK_bl G) (yK_mv G) hK hK.1 hW (by omega) laym_0 rfl (by omega) (by omega)) rfl hl.1 rfl (Nat.le_of_ble_eq_true rfl) d_M_output_2 ⟨Nat.zero_le _, Nat.zero_le _⟩) hS hW (fun H locs hW hS => ?_)
  by_cases hq2 : 0 ≤ k ∧ k ≤ (nk : Int) - 1
  · skip
    rw [show (if 0 ≤ k ∧ k ≤ (nk : Int) - 1 then (1 : Int) else 0) = 1 from if_pos hq2]
    refine y_if_eq (tgt := 50) hx hb d_M_output_5 (by decide) ⟨by omega, by omega⟩ (fun hc1 => absurd hc1 (by decide)) (fun hc1 => ?_)
    refine lv_iload_n hx hb d_M_output_8 rfl (lv_at hl 2 rfl) ?_
    refine lv_iconst (v := J (0)) hx hb d_M_output_9 rfl ?_
    refine lv_sipush (v := J (999)) hx hb d_M_output_10 (by decide) ?_
    refine y_ci (y_runS (As := [.int (J (v9)), .int (J (0)), .int (J (999))]) (rest := []) ⟨hx, hb, hml, hown, hts⟩ (c_M_in l G (v9) (0) (999) hv9 ⟨by omega, by omega⟩ ⟨by omega, by omega⟩) 3 k_co_M_in k_ml_M_110 k_st_M_in k_in_M rfl rfl (by decide +kernel) ⟨Nat.le_of_ble_eq_true rfl, Nat.le_of_ble_eq_true rfl⟩ (yPs0 (yK_bl G) (yK_mv G) hK) rfl hl.1 rfl (Nat.le_of_ble_eq_true rfl) d_M_output_13 ⟨Nat.zero_le _, Nat.zero_le _⟩) hS hW (fun H locs hW hS => ?_)
    by_cases hq13 : 0 ≤ v9 ∧ v9 ≤ 999
    · skip
      rw [show (if 0 ≤ v9 ∧ v9 ≤ 999 then (1 : Int) else 0) = 1 from if_pos hq13]
      refine y_if_eq (tgt := 50) hx hb d_M_output_16 (by decide) ⟨by omega, by omega⟩ (fun hc2 => absurd hc2 (by decide)) (fun hc2 => ?_)
      refine lv_iload_n hx hb d_M_output_19 rfl (lv_at hl 3 rfl) ?_
      refine y_ci (y_runS (As := [.int (J (t9))]) (rest := []) ⟨hx, hb, hml, hown, hts⟩ (c_M_isScalar l G (t9) ht9) 1 k_co_M_isScalar k_ml_M_165 k_st_M_isScalar k_in_M rfl rfl (by decide +kernel) ⟨Nat.le_of_ble_eq_true rfl, Nat.le_of_ble_eq_true rfl⟩ (yPs0 (yK_bl G) (yK_mv G) hK) rfl hl.1 rfl (Nat.le_of_ble_eq_true rfl) d_M_output_20 ⟨Nat.zero_le _, Nat.zero_le _⟩) hS hW (fun H locs hW hS => ?_)
      by_cases hq20 : 0 ≤ t9 ∧ t9 < 2473
      · skip
        rw [show (if 0 ≤ t9 ∧ t9 < 2473 then (1 : Int) else 0) = 1 from if_pos hq20]
        refine y_if_eq (tgt := 50) hx hb d_M_output_23 (by decide) ⟨by omega, by omega⟩ (fun hc3 => absurd hc3 (by decide)) (fun hc3 => ?_)
        refine lv_iload hx hb d_M_output_26 (lv_at hl 4 rfl) ?_
        refine y_ci (y_runS (As := [.int (J (e9))]) (rest := []) ⟨hx, hb, hml, hown, hts⟩ (c_M_isScalar l G (e9) he9) 1 k_co_M_isScalar k_ml_M_165 k_st_M_isScalar k_in_M rfl rfl (by decide +kernel) ⟨Nat.le_of_ble_eq_true rfl, Nat.le_of_ble_eq_true rfl⟩ (yPs0 (yK_bl G) (yK_mv G) hK) rfl hl.1 rfl (Nat.le_of_ble_eq_true rfl) d_M_output_28 ⟨Nat.zero_le _, Nat.zero_le _⟩) hS hW (fun H locs hW hS => ?_)
        by_cases hq28 : 0 ≤ e9 ∧ e9 < 2473
        · skip
          rw [show (if 0 ≤ e9 ∧ e9 < 2473 then (1 : Int) else 0) = 1 from if_pos hq28]
          refine y_if_eq (tgt := 50) hx hb d_M_output_31 (by decide) ⟨by omega, by omega⟩ (fun hc4 => absurd hc4 (by decide)) (fun hc4 => ?_)
          refine lv_iload hx hb d_M_output_34 (lv_at hl 5 rfl) ?_
          refine y_ci (y_runS (As := [.int (J (w9))]) (rest := []) ⟨hx, hb, hml, hown, hts⟩ (c_M_isScalar l G (w9) hw9) 1 k_co_M_isScalar k_ml_M_165 k_st_M_isScalar k_in_M rfl rfl (by decide +kernel) ⟨Nat.le_of_ble_eq_true rfl, Nat.le_of_ble_eq_true rfl⟩ (yPs0 (yK_bl G) (yK_mv G) hK) rfl hl.1 rfl (Nat.le_of_ble_eq_true rfl) d_M_output_36 ⟨Nat.zero_le _, Nat.zero_le _⟩) hS hW (fun H locs hW hS => ?_)
          by_cases hq36 : 0 ≤ w9 ∧ w9 < 2473
          · skip
            rw [show (if 0 ≤ w9 ∧ w9 < 2473 then (1 : Int) else 0) = 1 from if_pos hq36]
            refine y_if_eq (tgt := 50) hx hb d_M_output_39 (by decide) ⟨by omega, by omega⟩ (fun hc5 => absurd hc5 (by decide)) (fun hc5 => ?_)
            refine lv_aload_n hx hb d_M_output_42 rfl (lv_at hl 0 rfl) ?_
            refine y_geti hx hb hA in_M hown hK.1 hW 0 (by omega) laym_0 rfl 13 (by decide) (hA _ k_fl_M_156) rfl d_M_output_43 ?_
            rw [ho]
            refine lv_iconst (v := J (2)) hx hb d_M_output_46 rfl ?_
            refine y_icmp_ne (tgt := 52) hx hb d_M_output_47 (by decide) ⟨by omega, by omega⟩ ⟨by omega, by omega⟩ (fun hc6 => ?_) (fun hc6 => ?_)
            · skip
              obtain ⟨kn, e_kn⟩ : ∃ q : Nat, k = (q : Int) := ⟨(k).toNat, by omega⟩
              have hs8 := hsec kn (by omega)
              have hs9 : 0 ≤ τ 3 kn ∧ τ 3 kn < 2473 := by omega
              have hX := eX_rng (τ 3 kn * e9)
              have hY := eY_rng (τ 3 kn * e9)
              refine lv_aload_n hx hb d_M_output_52 rfl (lv_at hl 0 rfl) ?_
              refine y_geti hx hb hA in_M hown hK.1 hW 0 (by omega) laym_0 rfl 13 (by decide) (hA _ k_fl_M_156) rfl d_M_output_53 ?_
              rw [ho]
              refine lv_istore (lv' := [(6, .int (J ((no : Int)))), (0, .ref (z + 0)), (1, .int (J (k))), (2, .int (J (v9))), (3, .int (J (t9))), (4, .int (J (e9))), (5, .int (J (w9)))]) hx hb d_M_output_56 hl (by decide) rfl (fun ls hl => ?_)
              refine lv_aload_n hx hb d_M_output_58 rfl (lv_at hl 1 rfl) ?_
              refine y_getr hx hb hA in_M hown hK.1 hW 0 (by omega) laym_0 rfl 14 (by decide) (hA _ k_fl_M_43) rfl d_M_output_59 ?_
              refine lv_iload hx hb d_M_output_62 (lv_at hl 0 rfl) ?_
              refine lv_iload_n hx hb d_M_output_64 rfl (lv_at hl 2 rfl) ?_
              refine y_iast hx hb hK.1 hW 12 (by omega) laym_12 rfl (by decide) hS hAr no rfl (by omega) d_M_output_65 (fun H locs hW hS => ?_)
              refine lv_aload_n hx hb d_M_output_66 rfl (lv_at hl 1 rfl) ?_
              refine y_getr hx hb hA in_M hown hK.1 hW 0 (by omega) laym_0 rfl 15 (by decide) (hA _ k_fl_M_46) rfl d_M_output_67 ?_
              refine lv_iload hx hb d_M_output_70 (lv_at hl 0 rfl) ?_
              refine lv_iload_n hx hb d_M_output_72 rfl (lv_at hl 3 rfl) ?_
              refine y_iast hx hb hK.1 hW 13 (by omega) laym_13 rfl (by decide) hS hAr no rfl (by omega) d_M_output_73 (fun H locs hW hS => ?_)
              refine lv_aload_n hx hb d_M_output_74 rfl (lv_at hl 1 rfl) ?_
              refine y_getr hx hb hA in_M hown hK.1 hW 0 (by omega) laym_0 rfl 16 (by decide) (hA _ k_fl_M_49) rfl d_M_output_75 ?_
              refine lv_iload hx hb d_M_output_78 (lv_at hl 0 rfl) ?_
              refine lv_iload_n hx hb d_M_output_80 rfl (lv_at hl 4 rfl) ?_
              refine y_iast hx hb hK.1 hW 14 (by omega) laym_14 rfl (by decide) hS hAr no rfl (by omega) d_M_output_81 (fun H locs hW hS => ?_)
              refine lv_aload_n hx hb d_M_output_82 rfl (lv_at hl 1 rfl) ?_
              refine y_getr hx hb hA in_M hown hK.1 hW 0 (by omega) laym_0 rfl 17 (by decide) (hA _ k_fl_M_52) rfl d_M_output_83 ?_
              refine lv_iload hx hb d_M_output_86 (lv_at hl 0 rfl) ?_
              refine lv_iload hx hb d_M_output_88 (lv_at hl 6 rfl) ?_
              refine y_iast hx hb hK.1 hW 15 (by omega) laym_15 rfl (by decide) hS hAr no rfl (by omega) d_M_output_90 (fun H locs hW hS => ?_)
              refine lv_aload_n hx hb d_M_output_91 rfl (lv_at hl 1 rfl) ?_
              refine y_getr hx hb hA in_M hown hK.1 hW 0 (by omega) laym_0 rfl 18 (by decide) (hA _ k_fl_M_55) rfl d_M_output_92 ?_
              refine lv_iload hx hb d_M_output_95 (lv_at hl 0 rfl) ?_
              refine lv_aload_n hx hb d_M_output_97 rfl (lv_at hl 1 rfl) ?_
              refine lv_iload_n hx hb d_M_output_98 rfl (lv_at hl 2 rfl) ?_
              refine lv_iload_n hx hb d_M_output_99 rfl (lv_at hl 3 rfl) ?_
              refine lv_iload_n hx hb d_M_output_100 rfl (lv_at hl 4 rfl) ?_
              have e3a : (y2 (y2 (y2 (y2 τ 12 no (k)) 13 no (v9)) 14 no (t9)) 15 no (w9)) 3 kn = τ 3 kn := by rw [y2_cl (show 3 ≠ 15 by decide), y2_cl (show 3 ≠ 14 by decide), y2_cl (show 3 ≠ 13 by decide), y2_cl (show 3 ≠ 12 by decide)]
              refine y_ci (y_runV (As := [.int (J (k)), .int (J (v9)), .int (J (t9))]) (rest := [.int (J ((no : Int))), .ref (z + 16)]) ⟨hx, hb, hml, hown, hts⟩ (c_M_commitment l G z (y2 (y2 (y2 (y2 τ 12 no (k)) 13 no (v9)) 14 no (t9)) 15 no (w9)) (mTb_y2 (mTb_y2 (mTb_y2 (mTb_y2 hTb (by decide)) (by decide)) (by decide)) (by decide)) kn (by omega) (k) e_kn (by rw [e3a]; exact hs9) (v9) (t9) (by omega) (by omega)) 3 k_co_M_commitment k_ml_M_140 k_im_M_commitment k_se_M_commitment k_in_M rfl rfl (by decide +kernel) ⟨Nat.le_of_ble_eq_true rfl, Nat.le_of_ble_eq_true rfl⟩ (yPv (yK_bl G) (yK_mv G) hK hK.1 hW (by omega) laym_0 rfl (by omega) (by omega)) rfl hl.1 rfl (Nat.le_of_ble_eq_true rfl) d_M_output_101 ⟨Nat.zero_le _, Nat.zero_le _⟩) hS hW (fun H locs hW hS => ?_)
              rw [e3a]
              have eC : eX (v9 * 1281 + t9 * 1369 + τ 3 kn) = cOf (τ 3 kn) v9 t9 := congrArg eX (by omega)
              rw [eC]
              refine y_iast hx hb hK.1 hW 16 (by omega) laym_16 rfl (by decide) hS hAr no rfl (by omega) d_M_output_104 (fun H locs hW hS => ?_)
              refine lv_aload_n hx hb d_M_output_105 rfl (lv_at hl 1 rfl) ?_
              refine y_getr hx hb hA in_M hown hK.1 hW 0 (by omega) laym_0 rfl 19 (by decide) (hA _ k_fl_M_58) rfl d_M_output_106 ?_
              refine lv_iload hx hb d_M_output_109 (lv_at hl 0 rfl) ?_
              refine lv_iload hx hb d_M_output_111 (lv_at hl 5 rfl) ?_
              refine y_iast hx hb hK.1 hW 17 (by omega) laym_17 rfl (by decide) hS hAr no rfl (by omega) d_M_output_113 (fun H locs hW hS => ?_)
              refine lv_aload_n hx hb d_M_output_114 rfl (lv_at hl 1 rfl) ?_
              refine y_getr hx hb hA in_M hown hK.1 hW 0 (by omega) laym_0 rfl 20 (by decide) (hA _ k_fl_M_61) rfl d_M_output_115 ?_
              refine lv_iload hx hb d_M_output_118 (lv_at hl 0 rfl) ?_
              refine lv_iload_n hx hb d_M_output_120 rfl (lv_at hl 3 rfl) ?_
              refine lv_aload_n hx hb d_M_output_121 rfl (lv_at hl 1 rfl) ?_
              refine y_getr hx hb hA in_M hown hK.1 hW 0 (by omega) laym_0 rfl 0 (by decide) (hA _ k_fl_M_7) rfl d_M_output_122 ?_
              refine lv_aload_n hx hb d_M_output_125 rfl (lv_at hl 1 rfl) ?_
              refine lv_iload_n hx hb d_M_output_126 rfl (lv_at hl 2 rfl) ?_
              refine lv_iload hx hb d_M_output_127 (lv_at hl 5 rfl) ?_
              have e3b : (y2 (y2 (y2 (y2 (y2 (y2 τ 12 no (k)) 13 no (v9)) 14 no (t9)) 15 no (w9)) 16 no (cOf (τ 3 kn) v9 t9)) 17 no (e9)) 3 kn = τ 3 kn := by rw [y2_cl (show 3 ≠ 17 by decide), y2_cl (show 3 ≠ 16 by decide), y2_cl (show 3 ≠ 15 by decide), y2_cl (show 3 ≠ 14 by decide), y2_cl (show 3 ≠ 13 by decide), y2_cl (show 3 ≠ 12 by decide)]
              refine y_ci (y_runV (As := [.int (J (k)), .int (J (e9))]) (rest := [.ref (z + 1), .int (J (v9)), .int (J ((no : Int))), .ref (z + 18)]) ⟨hx, hb, hml, hown, hts⟩ (c_M_shared l G z (y2 (y2 (y2 (y2 (y2 (y2 τ 12 no (k)) 13 no (v9)) 14 no (t9)) 15 no (w9)) 16 no (cOf (τ 3 kn) v9 t9)) 17 no (e9)) kn (by omega) (k) e_kn (by rw [e3b]; exact hs9) (e9) ⟨by omega, by omega⟩) 2 k_co_M_shared k_ml_M_128 k_im_M_shared k_se_M_shared k_in_M rfl rfl (by decide +kernel) ⟨Nat.le_of_ble_eq_true rfl, Nat.le_of_ble_eq_true rfl⟩ (yPv (yK_bl G) (yK_mv G) hK hK.1 hW (by omega) laym_0 rfl (by omega) (by omega)) rfl hl.1 rfl (Nat.le_of_ble_eq_true rfl) d_M_output_129 ⟨Nat.zero_le _, Nat.zero_le _⟩) hS hW (fun H locs hW hS => ?_)
              rw [e3b]
              obtain ⟨m9, e_m9⟩ : ∃ q : Nat, (q : Int) = τ 3 kn * e9 % 2473 := ⟨(τ 3 kn * e9 % 2473).toNat, by omega⟩
              refine y_iald hx hb hK.1 hW 1 (by omega) laym_1 rfl (by decide) m9 (by omega) (by omega) d_M_output_132 ?_
              rw [y2_cl (show 1 ≠ 17 by omega), y2_cl (show 1 ≠ 16 by omega), y2_cl (show 1 ≠ 15 by omega), y2_cl (show 1 ≠ 14 by omega), y2_cl (show 1 ≠ 13 by omega), y2_cl (show 1 ≠ 12 by omega)]
              rw [mT_x hTb e_m9]
              refine y_iadd hx hb d_M_output_133 ?_
              refine lv_sipush (v := J (1000)) hx hb d_M_output_134 (by decide) ?_
              refine y_irem hx hb d_M_output_137 (by omega) (by omega) (by decide) ?_
              refine y_iast hx hb hK.1 hW 18 (by omega) laym_18 rfl (by decide) hS hAr no rfl (by omega) d_M_output_138 (fun H locs hW hS => ?_)
              refine lv_aload_n hx hb d_M_output_139 rfl (lv_at hl 1 rfl) ?_
              refine y_getr hx hb hA in_M hown hK.1 hW 0 (by omega) laym_0 rfl 21 (by decide) (hA _ k_fl_M_64) rfl d_M_output_140 ?_
              refine lv_iload hx hb d_M_output_143 (lv_at hl 0 rfl) ?_
              refine lv_iload_n hx hb d_M_output_145 rfl (lv_at hl 4 rfl) ?_
              refine lv_aload_n hx hb d_M_output_146 rfl (lv_at hl 1 rfl) ?_
              refine y_getr hx hb hA in_M hown hK.1 hW 0 (by omega) laym_0 rfl 1 (by decide) (hA _ k_fl_M_13) rfl d_M_output_147 ?_
              refine lv_aload_n hx hb d_M_output_150 rfl (lv_at hl 1 rfl) ?_
              refine lv_iload_n hx hb d_M_output_151 rfl (lv_at hl 2 rfl) ?_
              refine lv_iload hx hb d_M_output_152 (lv_at hl 5 rfl) ?_
              have e3c : (y2 (y2 (y2 (y2 (y2 (y2 (y2 τ 12 no (k)) 13 no (v9)) 14 no (t9)) 15 no (w9)) 16 no (cOf (τ 3 kn) v9 t9)) 17 no (e9)) 18 no ((v9 + (eX (τ 3 kn * e9))) % 1000)) 3 kn = τ 3 kn := by rw [y2_cl (show 3 ≠ 18 by decide), y2_cl (show 3 ≠ 17 by decide), y2_cl (show 3 ≠ 16 by decide), y2_cl (show 3 ≠ 15 by decide), y2_cl (show 3 ≠ 14 by decide), y2_cl (show 3 ≠ 13 by decide), y2_cl (show 3 ≠ 12 by decide)]
              refine y_ci (y_runV (As := [.int (J (k)), .int (J (e9))]) (rest := [.ref (z + 2), .int (J (t9)), .int (J ((no : Int))), .ref (z + 19)]) ⟨hx, hb, hml, hown, hts⟩ (c_M_shared l G z (y2 (y2 (y2 (y2 (y2 (y2 (y2 τ 12 no (k)) 13 no (v9)) 14 no (t9)) 15 no (w9)) 16 no (cOf (τ 3 kn) v9 t9)) 17 no (e9)) 18 no ((v9 + (eX (τ 3 kn * e9))) % 1000)) kn (by omega) (k) e_kn (by rw [e3c]; exact hs9) (e9) ⟨by omega, by omega⟩) 2 k_co_M_shared k_ml_M_128 k_im_M_shared k_se_M_shared k_in_M rfl rfl (by decide +kernel) ⟨Nat.le_of_ble_eq_true rfl, Nat.le_of_ble_eq_true rfl⟩ (yPv (yK_bl G) (yK_mv G) hK hK.1 hW (by omega) laym_0 rfl (by omega) (by omega)) rfl hl.1 rfl (Nat.le_of_ble_eq_true rfl) d_M_output_154 ⟨Nat.zero_le _, Nat.zero_le _⟩) hS hW (fun H locs hW hS => ?_)
              rw [e3c]
              obtain ⟨m8, e_m8⟩ : ∃ q : Nat, (q : Int) = τ 3 kn * e9 % 2473 := ⟨(τ 3 kn * e9 % 2473).toNat, by omega⟩
              refine y_iald hx hb hK.1 hW 2 (by omega) laym_2 rfl (by decide) m8 (by omega) (by omega) d_M_output_157 ?_
              rw [y2_cl (show 2 ≠ 18 by omega), y2_cl (show 2 ≠ 17 by omega), y2_cl (show 2 ≠ 16 by omega), y2_cl (show 2 ≠ 15 by omega), y2_cl (show 2 ≠ 14 by omega), y2_cl (show 2 ≠ 13 by omega), y2_cl (show 2 ≠ 12 by omega)]
              rw [mT_y hTb e_m8]
              refine y_iadd hx hb d_M_output_158 ?_
              refine lv_sipush (v := J (2473)) hx hb d_M_output_159 (by decide) ?_
              refine y_irem hx hb d_M_output_162 (by omega) (by omega) (by decide) ?_
              refine y_iast hx hb hK.1 hW 19 (by omega) laym_19 rfl (by decide) hS hAr no rfl (by omega) d_M_output_163 (fun H locs hW hS => ?_)
              refine lv_aload_n hx hb d_M_output_164 rfl (lv_at hl 1 rfl) ?_
              refine lv_dup hx hb d_M_output_165 rfl ?_
              refine y_geti hx hb hA in_M hown hK.1 hW 0 (by omega) laym_0 rfl 13 (by decide) (hA _ k_fl_M_156) rfl d_M_output_166 ?_
              rw [y2_cl (show 0 ≠ 19 by omega), y2_cl (show 0 ≠ 18 by omega), y2_cl (show 0 ≠ 17 by omega), y2_cl (show 0 ≠ 16 by omega), y2_cl (show 0 ≠ 15 by omega), y2_cl (show 0 ≠ 14 by omega), y2_cl (show 0 ≠ 13 by omega), y2_cl (show 0 ≠ 12 by omega)]
              rw [ho]
              refine lv_iconst (v := J (1)) hx hb d_M_output_169 rfl ?_
              refine y_iadd hx hb d_M_output_170 ?_
              refine y_puti hx hb hA in_M hown hK.1 hW 0 (by omega) laym_0 rfl 13 (by decide) t_M tk_M nm_M hS hAr (hA _ k_fl_M_156) rfl (by decide +kernel) rfl d_M_output_171 (fun H locs hW hS => ?_)
              refine lv_iconst (v := J (1)) hx hb d_M_output_174 rfl ?_
              exact y_retgz hx hb hr hlocks hS hW (Or.inr rfl) ⟨fun _ => ⟨rfl, by rw [show k.toNat = kn by omega]; rfl⟩, fun h => absurd ⟨by omega, by omega, by omega, by omega, by omega, by omega⟩ h⟩ d_M_output_175
            · skip
              refine lv_iconst (v := J (0)) hx hb d_M_output_50 rfl ?_
              exact y_retgz hx hb hr hlocks hS hW (Or.inl rfl) ⟨fun h => absurd h (by omega), fun _ => ⟨rfl, rfl⟩⟩ d_M_output_51
          · skip
            rw [show (if 0 ≤ w9 ∧ w9 < 2473 then (1 : Int) else 0) = 0 from if_neg hq36]
            refine y_if_eq (tgt := 50) hx hb d_M_output_39 (by decide) ⟨by omega, by omega⟩ (fun hc7 => ?_) (fun hc7 => absurd hc7 (by decide))
            refine lv_iconst (v := J (0)) hx hb d_M_output_50 rfl ?_
            exact y_retgz hx hb hr hlocks hS hW (Or.inl rfl) ⟨fun h => absurd h (by omega), fun _ => ⟨rfl, rfl⟩⟩ d_M_output_51
        · skip
          rw [show (if 0 ≤ e9 ∧ e9 < 2473 then (1 : Int) else 0) = 0 from if_neg hq28]
          refine y_if_eq (tgt := 50) hx hb d_M_output_31 (by decide) ⟨by omega, by omega⟩ (fun hc8 => ?_) (fun hc8 => absurd hc8 (by decide))
          refine lv_iconst (v := J (0)) hx hb d_M_output_50 rfl ?_
          exact y_retgz hx hb hr hlocks hS hW (Or.inl rfl) ⟨fun h => absurd h (by omega), fun _ => ⟨rfl, rfl⟩⟩ d_M_output_51
      · skip
        rw [show (if 0 ≤ t9 ∧ t9 < 2473 then (1 : Int) else 0) = 0 from if_neg hq20]
        refine y_if_eq (tgt := 50) hx hb d_M_output_23 (by decide) ⟨by omega, by omega⟩ (fun hc9 => ?_) (fun hc9 => absurd hc9 (by decide))
        refine lv_iconst (v := J (0)) hx hb d_M_output_50 rfl ?_
        exact y_retgz hx hb hr hlocks hS hW (Or.inl rfl) ⟨fun h => absurd h (by omega), fun _ => ⟨rfl, rfl⟩⟩ d_M_output_51
    · skip
      rw [show (if 0 ≤ v9 ∧ v9 ≤ 999 then (1 : Int) else 0) = 0 from if_neg hq13]
      refine y_if_eq (tgt := 50) hx hb d_M_output_16 (by decide) ⟨by omega, by omega⟩ (fun hc10 => ?_) (fun hc10 => absurd hc10 (by decide))
      refine lv_iconst (v := J (0)) hx hb d_M_output_50 rfl ?_
      exact y_retgz hx hb hr hlocks hS hW (Or.inl rfl) ⟨fun h => absurd h (by omega), fun _ => ⟨rfl, rfl⟩⟩ d_M_output_51
  · skip
    rw [show (if 0 ≤ k ∧ k ≤ (nk : Int) - 1 then (1 : Int) else 0) = 0 from if_neg hq2]
    refine y_if_eq (tgt := 50) hx hb d_M_output_5 (by decide) ⟨by omega, by omega⟩ (fun hc11 => ?_) (fun hc11 => absurd hc11 (by decide))
    refine lv_iconst (v := J (0)) hx hb d_M_output_50 rfl ?_
    exact y_retgz hx hb hr hlocks hS hW (Or.inl rfl) ⟨fun h => absurd h (by omega), fun _ => ⟨rfl, rfl⟩⟩ d_M_output_51

set_option maxHeartbeats 4000000 in
set_option maxRecDepth 100000 in
theorem c_M_alter (l : Launch) (G : yG) (z : Nat) (τ : yM) (ns no : Nat) (hns : ns ≤ 2) (hno : no ≤ 2) (hs : τ 0 4 = (ns : Int)) (ho : τ 0 13 = (no : Int)) (w9 x9 : Int) (hw9 : jr w9) (hx9 : jr x9) : Met l y_M_alter (Cond.code y_M_alter b_M_alter 5 (some .boolean) :: yT) ({ frames := 1, cells := 0, slots := 0, locals := 22 } : Room) (yP ycl G yLM 0 28 z τ (yK G) [.ref (z + 0), .int (J (w9)), .int (J (x9))]) (yQg ycl G yLM 0 28 z (fun x ρ => (w9 = 0 → (0 < ns ∧ 0 ≤ x9 ∧ x9 < 10009 → x = 1 ∧ ρ = y2 τ 9 0 x9) ∧ (¬ (0 < ns ∧ 0 ≤ x9 ∧ x9 < 10009) → x = 0 ∧ ρ = τ)) ∧ (w9 = 1 → (0 < ns ∧ 0 ≤ x9 ∧ x9 < 10009 → x = 1 ∧ ρ = y2 τ 10 0 x9) ∧ (¬ (0 < ns ∧ 0 ≤ x9 ∧ x9 < 10009) → x = 0 ∧ ρ = τ)) ∧ (w9 = 2 → (0 < ns ∧ 0 ≤ x9 ∧ x9 < 1000 → x = 1 ∧ ρ = y2 τ 6 0 x9) ∧ (¬ (0 < ns ∧ 0 ≤ x9 ∧ x9 < 1000) → x = 0 ∧ ρ = τ)) ∧ (w9 = 3 → (0 < no ∧ 0 ≤ x9 ∧ x9 < 10009 → x = 1 ∧ ρ = y2 τ 16 0 x9) ∧ (¬ (0 < no ∧ 0 ≤ x9 ∧ x9 < 10009) → x = 0 ∧ ρ = τ)) ∧ (w9 = 4 → (0 < no ∧ 0 ≤ x9 ∧ x9 < 1000 → x = 1 ∧ ρ = y2 τ 18 0 x9) ∧ (¬ (0 < no ∧ 0 ≤ x9 ∧ x9 < 1000) → x = 0 ∧ ρ = τ)) ∧ (w9 = 5 → (0 ≤ x9 ∧ x9 < 2473 → x = 1 ∧ ρ = y2 τ 0 23 x9) ∧ (¬ (0 ≤ x9 ∧ x9 < 2473) → x = 0 ∧ ρ = τ)) ∧ (w9 < 0 ∨ 5 < w9 → x = 0 ∧ ρ = τ))) 0 0 (yA z 0 28) := by
  refine y_met (by decide +kernel) (Nat.le_of_ble_eq_true rfl) ?_
  intro p e s m below meth c ls hx hb hr hml hlocks hown hname hts hv hl
  have hA : ∀ w ∈ yT, w.before _ s = true := fun w h => hts w (List.mem_cons_of_mem _ h)
  have hl : lv_has ls 5 [(0, .ref (z + 0)), (1, .int (J (w9))), (2, .int (J (x9)))] := hl
  obtain ⟨hW, hK⟩ := hv
  have hS : va_S (yA z 0 28) s.heap s.heap [] := va_S.rf
  have hAr : ∀ d, 0 ≤ d ∧ d < 0 + 28 → yA z 0 28 (z + d) := yA_all
  by_cases hw0 : w9 = 0
  · skip
    subst hw0
    refine lv_iload_n hx hb d_M_alter_0 rfl (lv_at hl 1 rfl) ?_
    refine lv_iconst (v := J (2)) hx hb d_M_alter_1 rfl ?_
    refine y_icmp_eq (tgt := 10) hx hb d_M_alter_2 (by decide) hw9 ⟨by omega, by omega⟩ (fun hc1 => absurd hc1 (by decide)) (fun hc1 => ?_)
    refine lv_iload_n hx hb d_M_alter_5 rfl (lv_at hl 1 rfl) ?_
    refine lv_iconst (v := J (4)) hx hb d_M_alter_6 rfl ?_
    refine y_icmp_ne (tgt := 16) hx hb d_M_alter_7 (by decide) hw9 ⟨by omega, by omega⟩ (fun hc2 => ?_) (fun hc2 => absurd hc2 (by decide))
    refine lv_iload_n hx hb d_M_alter_16 rfl (lv_at hl 1 rfl) ?_
    refine lv_iconst (v := J (5)) hx hb d_M_alter_17 rfl ?_
    refine y_icmp_ne (tgt := 27) hx hb d_M_alter_18 (by decide) hw9 ⟨by omega, by omega⟩ (fun hc3 => ?_) (fun hc3 => absurd hc3 (by decide))
    refine lv_sipush (v := J (10008)) hx hb d_M_alter_27 (by decide) ?_
    refine lv_istore_n (lv' := [(3, .int (J (10008))), (0, .ref (z + 0)), (1, .int (J (0))), (2, .int (J (x9)))]) hx hb d_M_alter_30 rfl hl (by decide) rfl (fun ls hl => ?_)
    refine lv_iload_n hx hb d_M_alter_31 rfl (lv_at hl 2 rfl) ?_
    refine lv_iconst (v := J (5)) hx hb d_M_alter_32 rfl ?_
    refine y_icmp_ne (tgt := 40) hx hb d_M_alter_33 (by decide) hw9 ⟨by omega, by omega⟩ (fun hc4 => ?_) (fun hc4 => absurd hc4 (by decide))
    refine lv_iload_n hx hb d_M_alter_40 rfl (lv_at hl 2 rfl) ?_
    refine lv_iconst (v := J (0)) hx hb d_M_alter_41 rfl ?_
    refine lv_iconst (v := J (2)) hx hb d_M_alter_42 rfl ?_
    refine y_ci (y_runS (As := [.int (J (0)), .int (J (0)), .int (J (2))]) (rest := []) ⟨hx, hb, hml, hown, hts⟩ (c_M_in l G (0) (0) (2) hw9 ⟨by omega, by omega⟩ ⟨by omega, by omega⟩) 3 k_co_M_in k_ml_M_110 k_st_M_in k_in_M rfl rfl (by decide +kernel) ⟨Nat.le_of_ble_eq_true rfl, Nat.le_of_ble_eq_true rfl⟩ (yPs0 (yK_bl G) (yK_mv G) hK) rfl hl.1 rfl (Nat.le_of_ble_eq_true rfl) d_M_alter_43 ⟨Nat.zero_le _, Nat.zero_le _⟩) hS hW (fun H locs hW hS => ?_)
    rw [if_pos (by decide)]
    refine y_if_eq (tgt := 56) hx hb d_M_alter_46 (by decide) ⟨by omega, by omega⟩ (fun hc5 => absurd hc5 (by decide)) (fun hc5 => ?_)
    refine lv_aload_n hx hb d_M_alter_49 rfl (lv_at hl 1 rfl) ?_
    refine y_geti hx hb hA in_M hown hK.1 hW 0 (by omega) laym_0 rfl 4 (by decide) (hA _ k_fl_M_153) rfl d_M_alter_50 ?_
    rw [hs]
    refine lv_goto (tgt := 73) hx hb d_M_alter_53 (by decide) ?_
    refine lv_istore (lv' := [(4, .int (J ((ns : Int)))), (3, .int (J (10008))), (0, .ref (z + 0)), (1, .int (J (0))), (2, .int (J (x9)))]) hx hb d_M_alter_73 hl (by decide) rfl (fun ls hl => ?_)
    refine lv_iload hx hb d_M_alter_75 (lv_at hl 0 rfl) ?_
    refine y_if_eq (tgt := 89) hx hb d_M_alter_77 (by decide) ⟨by omega, by omega⟩ (fun hc6 => ?_) (fun hc6 => ?_)
    · skip
      refine lv_iconst (v := J (0)) hx hb d_M_alter_89 rfl ?_
      exact y_retgz hx hb hr hlocks hS hW (Or.inl rfl) ⟨fun _ => ⟨fun h => absurd h (by omega), fun _ => ⟨rfl, rfl⟩⟩, fun h => absurd h (by first | decide | exact hw1), fun h => absurd h (by first | decide | exact hw2), fun h => absurd h (by first | decide | exact hw3), fun h => absurd h (by first | decide | exact hw4), fun h => absurd h (by first | decide | exact hw5), fun h => absurd h (by decide)⟩ d_M_alter_90
    · skip
      refine lv_iload_n hx hb d_M_alter_80 rfl (lv_at hl 4 rfl) ?_
      refine lv_iconst (v := J (0)) hx hb d_M_alter_81 rfl ?_
      refine lv_iload_n hx hb d_M_alter_82 rfl (lv_at hl 1 rfl) ?_
      refine y_ci (y_runS (As := [.int (J (x9)), .int (J (0)), .int (J (10008))]) (rest := []) ⟨hx, hb, hml, hown, hts⟩ (c_M_in l G (x9) (0) (10008) hx9 ⟨by omega, by omega⟩ ⟨by omega, by omega⟩) 3 k_co_M_in k_ml_M_110 k_st_M_in k_in_M rfl rfl (by decide +kernel) ⟨Nat.le_of_ble_eq_true rfl, Nat.le_of_ble_eq_true rfl⟩ (yPs0 (yK_bl G) (yK_mv G) hK) rfl hl.1 rfl (Nat.le_of_ble_eq_true rfl) d_M_alter_83 ⟨Nat.zero_le _, Nat.zero_le _⟩) hS hW (fun H locs hW hS => ?_)
      by_cases hq83 : 0 ≤ x9 ∧ x9 ≤ 10008
      · skip
        rw [show (if 0 ≤ x9 ∧ x9 ≤ 10008 then (1 : Int) else 0) = 1 from if_pos hq83]
        refine y_if_ne (tgt := 91) hx hb d_M_alter_86 (by decide) ⟨by omega, by omega⟩ (fun hc7 => ?_) (fun hc7 => absurd hc7 (by decide))
        refine lv_aload_n hx hb d_M_alter_91 rfl (lv_at hl 2 rfl) ?_
        refine y_getr hx hb hA in_M hown hK.1 hW 0 (by omega) laym_0 rfl 10 (by decide) (hA _ k_fl_M_34) rfl d_M_alter_92 ?_
        refine lv_iconst (v := J (0)) hx hb d_M_alter_95 rfl ?_
        refine lv_iload_n hx hb d_M_alter_96 rfl (lv_at hl 3 rfl) ?_
        refine y_if_ne (tgt := 104) hx hb d_M_alter_97 (by decide) ⟨by omega, by omega⟩ (fun hc8 => absurd hc8 (by decide)) (fun hc8 => ?_)
        refine lv_iload_n hx hb d_M_alter_100 rfl (lv_at hl 4 rfl) ?_
        refine lv_goto (tgt := 110) hx hb d_M_alter_101 (by decide) ?_
        refine y_iast hx hb hK.1 hW 9 (by omega) laym_9 rfl (by decide) hS hAr 0 (by omega) (by omega) d_M_alter_110 (fun H locs hW hS => ?_)
        refine lv_aload_n hx hb d_M_alter_111 rfl (lv_at hl 2 rfl) ?_
        refine y_getr hx hb hA in_M hown hK.1 hW 0 (by omega) laym_0 rfl 11 (by decide) (hA _ k_fl_M_37) rfl d_M_alter_112 ?_
        refine lv_iconst (v := J (0)) hx hb d_M_alter_115 rfl ?_
        refine lv_iload_n hx hb d_M_alter_116 rfl (lv_at hl 3 rfl) ?_
        refine lv_iconst (v := J (1)) hx hb d_M_alter_117 rfl ?_
        refine y_icmp_ne (tgt := 125) hx hb d_M_alter_118 (by decide) ⟨by omega, by omega⟩ ⟨by omega, by omega⟩ (fun hc9 => ?_) (fun hc9 => absurd hc9 (by decide))
        refine lv_aload_n hx hb d_M_alter_125 rfl (lv_at hl 2 rfl) ?_
        refine y_getr hx hb hA in_M hown hK.1 hW 0 (by omega) laym_0 rfl 11 (by decide) (hA _ k_fl_M_37) rfl d_M_alter_126 ?_
        refine lv_iconst (v := J (0)) hx hb d_M_alter_129 rfl ?_
        refine y_iald hx hb hK.1 hW 10 (by omega) laym_10 rfl (by decide) 0 (by omega) (by omega) d_M_alter_130 ?_
        rw [y2_cl (show 10 ≠ 9 by omega)]
        refine y_iast hx hb hK.1 hW 10 (by omega) laym_10 rfl (by decide) hS hAr 0 (by omega) (by omega) d_M_alter_131 (fun H locs hW hS => ?_)
        refine lv_aload_n hx hb d_M_alter_132 rfl (lv_at hl 2 rfl) ?_
        refine y_getr hx hb hA in_M hown hK.1 hW 0 (by omega) laym_0 rfl 7 (by decide) (hA _ k_fl_M_25) rfl d_M_alter_133 ?_
        refine lv_iconst (v := J (0)) hx hb d_M_alter_136 rfl ?_
        refine lv_iload_n hx hb d_M_alter_137 rfl (lv_at hl 3 rfl) ?_
        refine lv_iconst (v := J (2)) hx hb d_M_alter_138 rfl ?_
        refine y_icmp_ne (tgt := 146) hx hb d_M_alter_139 (by decide) ⟨by omega, by omega⟩ ⟨by omega, by omega⟩ (fun hc10 => ?_) (fun hc10 => absurd hc10 (by decide))
        refine lv_aload_n hx hb d_M_alter_146 rfl (lv_at hl 2 rfl) ?_
        refine y_getr hx hb hA in_M hown hK.1 hW 0 (by omega) laym_0 rfl 7 (by decide) (hA _ k_fl_M_25) rfl d_M_alter_147 ?_
        refine lv_iconst (v := J (0)) hx hb d_M_alter_150 rfl ?_
        refine y_iald hx hb hK.1 hW 6 (by omega) laym_6 rfl (by decide) 0 (by omega) (by omega) d_M_alter_151 ?_
        rw [y2_cl (show 6 ≠ 10 by omega), y2_cl (show 6 ≠ 9 by omega)]
        refine y_iast hx hb hK.1 hW 6 (by omega) laym_6 rfl (by decide) hS hAr 0 (by omega) (by omega) d_M_alter_152 (fun H locs hW hS => ?_)
        refine lv_aload_n hx hb d_M_alter_153 rfl (lv_at hl 2 rfl) ?_
        refine y_getr hx hb hA in_M hown hK.1 hW 0 (by omega) laym_0 rfl 18 (by decide) (hA _ k_fl_M_55) rfl d_M_alter_154 ?_
        refine lv_iconst (v := J (0)) hx hb d_M_alter_157 rfl ?_
        refine lv_iload_n hx hb d_M_alter_158 rfl (lv_at hl 3 rfl) ?_
        refine lv_iconst (v := J (3)) hx hb d_M_alter_159 rfl ?_
        refine y_icmp_ne (tgt := 167) hx hb d_M_alter_160 (by decide) ⟨by omega, by omega⟩ ⟨by omega, by omega⟩ (fun hc11 => ?_) (fun hc11 => absurd hc11 (by decide))
        refine lv_aload_n hx hb d_M_alter_167 rfl (lv_at hl 2 rfl) ?_
        refine y_getr hx hb hA in_M hown hK.1 hW 0 (by omega) laym_0 rfl 18 (by decide) (hA _ k_fl_M_55) rfl d_M_alter_168 ?_
        refine lv_iconst (v := J (0)) hx hb d_M_alter_171 rfl ?_
        refine y_iald hx hb hK.1 hW 16 (by omega) laym_16 rfl (by decide) 0 (by omega) (by omega) d_M_alter_172 ?_
        rw [y2_cl (show 16 ≠ 6 by omega), y2_cl (show 16 ≠ 10 by omega), y2_cl (show 16 ≠ 9 by omega)]
        refine y_iast hx hb hK.1 hW 16 (by omega) laym_16 rfl (by decide) hS hAr 0 (by omega) (by omega) d_M_alter_173 (fun H locs hW hS => ?_)
        refine lv_aload_n hx hb d_M_alter_174 rfl (lv_at hl 2 rfl) ?_
        refine y_getr hx hb hA in_M hown hK.1 hW 0 (by omega) laym_0 rfl 20 (by decide) (hA _ k_fl_M_61) rfl d_M_alter_175 ?_
        refine lv_iconst (v := J (0)) hx hb d_M_alter_178 rfl ?_
        refine lv_iload_n hx hb d_M_alter_179 rfl (lv_at hl 3 rfl) ?_
        refine lv_iconst (v := J (4)) hx hb d_M_alter_180 rfl ?_
        refine y_icmp_ne (tgt := 188) hx hb d_M_alter_181 (by decide) ⟨by omega, by omega⟩ ⟨by omega, by omega⟩ (fun hc12 => ?_) (fun hc12 => absurd hc12 (by decide))
        refine lv_aload_n hx hb d_M_alter_188 rfl (lv_at hl 2 rfl) ?_
        refine y_getr hx hb hA in_M hown hK.1 hW 0 (by omega) laym_0 rfl 20 (by decide) (hA _ k_fl_M_61) rfl d_M_alter_189 ?_
        refine lv_iconst (v := J (0)) hx hb d_M_alter_192 rfl ?_
        refine y_iald hx hb hK.1 hW 18 (by omega) laym_18 rfl (by decide) 0 (by omega) (by omega) d_M_alter_193 ?_
        rw [y2_cl (show 18 ≠ 16 by omega), y2_cl (show 18 ≠ 6 by omega), y2_cl (show 18 ≠ 10 by omega), y2_cl (show 18 ≠ 9 by omega)]
        refine y_iast hx hb hK.1 hW 18 (by omega) laym_18 rfl (by decide) hS hAr 0 (by omega) (by omega) d_M_alter_194 (fun H locs hW hS => ?_)
        refine lv_aload_n hx hb d_M_alter_195 rfl (lv_at hl 2 rfl) ?_
        refine lv_iload_n hx hb d_M_alter_196 rfl (lv_at hl 3 rfl) ?_
        refine lv_iconst (v := J (5)) hx hb d_M_alter_197 rfl ?_
        refine y_icmp_ne (tgt := 205) hx hb d_M_alter_198 (by decide) ⟨by omega, by omega⟩ ⟨by omega, by omega⟩ (fun hc13 => ?_) (fun hc13 => absurd hc13 (by decide))
        refine lv_aload_n hx hb d_M_alter_205 rfl (lv_at hl 2 rfl) ?_
        refine y_geti hx hb hA in_M hown hK.1 hW 0 (by omega) laym_0 rfl 23 (by decide) (hA _ k_fl_M_162) rfl d_M_alter_206 ?_
        rw [y2_cl (show 0 ≠ 18 by omega), y2_cl (show 0 ≠ 16 by omega), y2_cl (show 0 ≠ 6 by omega), y2_cl (show 0 ≠ 10 by omega), y2_cl (show 0 ≠ 9 by omega)]
        refine y_puti hx hb hA in_M hown hK.1 hW 0 (by omega) laym_0 rfl 23 (by decide) t_M tk_M nm_M hS hAr (hA _ k_fl_M_162) rfl (by decide +kernel) rfl d_M_alter_209 (fun H locs hW hS => ?_)
        refine lv_iconst (v := J (1)) hx hb d_M_alter_212 rfl ?_
        exact y_retgz hx hb hr hlocks hS hW (Or.inr rfl) ⟨fun _ => ⟨fun _ => ⟨rfl, ((y2_id rfl).trans ((y2_id rfl).trans ((y2_id rfl).trans ((y2_id rfl).trans ((y2_id rfl).trans (congrArg (fun q => y2 q 9 0 x9) rfl))))))⟩, fun h => absurd (by omega) h⟩, fun h => absurd h (by first | decide | exact hw1), fun h => absurd h (by first | decide | exact hw2), fun h => absurd h (by first | decide | exact hw3), fun h => absurd h (by first | decide | exact hw4), fun h => absurd h (by first | decide | exact hw5), fun h => absurd h (by decide)⟩ d_M_alter_213
      · skip
        rw [show (if 0 ≤ x9 ∧ x9 ≤ 10008 then (1 : Int) else 0) = 0 from if_neg hq83]
        refine y_if_ne (tgt := 91) hx hb d_M_alter_86 (by decide) ⟨by omega, by omega⟩ (fun hc14 => absurd hc14 (by decide)) (fun hc14 => ?_)
        refine lv_iconst (v := J (0)) hx hb d_M_alter_89 rfl ?_
        exact y_retgz hx hb hr hlocks hS hW (Or.inl rfl) ⟨fun _ => ⟨fun h => absurd h (by omega), fun _ => ⟨rfl, rfl⟩⟩, fun h => absurd h (by first | decide | exact hw1), fun h => absurd h (by first | decide | exact hw2), fun h => absurd h (by first | decide | exact hw3), fun h => absurd h (by first | decide | exact hw4), fun h => absurd h (by first | decide | exact hw5), fun h => absurd h (by decide)⟩ d_M_alter_90
  by_cases hw1 : w9 = 1
  · skip
    subst hw1
    refine lv_iload_n hx hb d_M_alter_0 rfl (lv_at hl 1 rfl) ?_
    refine lv_iconst (v := J (2)) hx hb d_M_alter_1 rfl ?_
    refine y_icmp_eq (tgt := 10) hx hb d_M_alter_2 (by decide) hw9 ⟨by omega, by omega⟩ (fun hc15 => absurd hc15 (by decide)) (fun hc15 => ?_)
    refine lv_iload_n hx hb d_M_alter_5 rfl (lv_at hl 1 rfl) ?_
    refine lv_iconst (v := J (4)) hx hb d_M_alter_6 rfl ?_
    refine y_icmp_ne (tgt := 16) hx hb d_M_alter_7 (by decide) hw9 ⟨by omega, by omega⟩ (fun hc16 => ?_) (fun hc16 => absurd hc16 (by decide))
    refine lv_iload_n hx hb d_M_alter_16 rfl (lv_at hl 1 rfl) ?_
    refine lv_iconst (v := J (5)) hx hb d_M_alter_17 rfl ?_
    refine y_icmp_ne (tgt := 27) hx hb d_M_alter_18 (by decide) hw9 ⟨by omega, by omega⟩ (fun hc17 => ?_) (fun hc17 => absurd hc17 (by decide))
    refine lv_sipush (v := J (10008)) hx hb d_M_alter_27 (by decide) ?_
    refine lv_istore_n (lv' := [(3, .int (J (10008))), (0, .ref (z + 0)), (1, .int (J (1))), (2, .int (J (x9)))]) hx hb d_M_alter_30 rfl hl (by decide) rfl (fun ls hl => ?_)
    refine lv_iload_n hx hb d_M_alter_31 rfl (lv_at hl 2 rfl) ?_
    refine lv_iconst (v := J (5)) hx hb d_M_alter_32 rfl ?_
    refine y_icmp_ne (tgt := 40) hx hb d_M_alter_33 (by decide) hw9 ⟨by omega, by omega⟩ (fun hc18 => ?_) (fun hc18 => absurd hc18 (by decide))
    refine lv_iload_n hx hb d_M_alter_40 rfl (lv_at hl 2 rfl) ?_
    refine lv_iconst (v := J (0)) hx hb d_M_alter_41 rfl ?_
    refine lv_iconst (v := J (2)) hx hb d_M_alter_42 rfl ?_
    refine y_ci (y_runS (As := [.int (J (1)), .int (J (0)), .int (J (2))]) (rest := []) ⟨hx, hb, hml, hown, hts⟩ (c_M_in l G (1) (0) (2) hw9 ⟨by omega, by omega⟩ ⟨by omega, by omega⟩) 3 k_co_M_in k_ml_M_110 k_st_M_in k_in_M rfl rfl (by decide +kernel) ⟨Nat.le_of_ble_eq_true rfl, Nat.le_of_ble_eq_true rfl⟩ (yPs0 (yK_bl G) (yK_mv G) hK) rfl hl.1 rfl (Nat.le_of_ble_eq_true rfl) d_M_alter_43 ⟨Nat.zero_le _, Nat.zero_le _⟩) hS hW (fun H locs hW hS => ?_)
    rw [if_pos (by decide)]
    refine y_if_eq (tgt := 56) hx hb d_M_alter_46 (by decide) ⟨by omega, by omega⟩ (fun hc19 => absurd hc19 (by decide)) (fun hc19 => ?_)
    refine lv_aload_n hx hb d_M_alter_49 rfl (lv_at hl 1 rfl) ?_
    refine y_geti hx hb hA in_M hown hK.1 hW 0 (by omega) laym_0 rfl 4 (by decide) (hA _ k_fl_M_153) rfl d_M_alter_50 ?_
    rw [hs]
    refine lv_goto (tgt := 73) hx hb d_M_alter_53 (by decide) ?_
    refine lv_istore (lv' := [(4, .int (J ((ns : Int)))), (3, .int (J (10008))), (0, .ref (z + 0)), (1, .int (J (1))), (2, .int (J (x9)))]) hx hb d_M_alter_73 hl (by decide) rfl (fun ls hl => ?_)
    refine lv_iload hx hb d_M_alter_75 (lv_at hl 0 rfl) ?_
    refine y_if_eq (tgt := 89) hx hb d_M_alter_77 (by decide) ⟨by omega, by omega⟩ (fun hc20 => ?_) (fun hc20 => ?_)
    · skip
      refine lv_iconst (v := J (0)) hx hb d_M_alter_89 rfl ?_
      exact y_retgz hx hb hr hlocks hS hW (Or.inl rfl) ⟨fun h => absurd h (by first | decide | exact hw0), fun _ => ⟨fun h => absurd h (by omega), fun _ => ⟨rfl, rfl⟩⟩, fun h => absurd h (by first | decide | exact hw2), fun h => absurd h (by first | decide | exact hw3), fun h => absurd h (by first | decide | exact hw4), fun h => absurd h (by first | decide | exact hw5), fun h => absurd h (by decide)⟩ d_M_alter_90
    · skip
      refine lv_iload_n hx hb d_M_alter_80 rfl (lv_at hl 4 rfl) ?_
      refine lv_iconst (v := J (0)) hx hb d_M_alter_81 rfl ?_
      refine lv_iload_n hx hb d_M_alter_82 rfl (lv_at hl 1 rfl) ?_
      refine y_ci (y_runS (As := [.int (J (x9)), .int (J (0)), .int (J (10008))]) (rest := []) ⟨hx, hb, hml, hown, hts⟩ (c_M_in l G (x9) (0) (10008) hx9 ⟨by omega, by omega⟩ ⟨by omega, by omega⟩) 3 k_co_M_in k_ml_M_110 k_st_M_in k_in_M rfl rfl (by decide +kernel) ⟨Nat.le_of_ble_eq_true rfl, Nat.le_of_ble_eq_true rfl⟩ (yPs0 (yK_bl G) (yK_mv G) hK) rfl hl.1 rfl (Nat.le_of_ble_eq_true rfl) d_M_alter_83 ⟨Nat.zero_le _, Nat.zero_le _⟩) hS hW (fun H locs hW hS => ?_)
      by_cases hq83 : 0 ≤ x9 ∧ x9 ≤ 10008
      · skip
        rw [show (if 0 ≤ x9 ∧ x9 ≤ 10008 then (1 : Int) else 0) = 1 from if_pos hq83]
        refine y_if_ne (tgt := 91) hx hb d_M_alter_86 (by decide) ⟨by omega, by omega⟩ (fun hc21 => ?_) (fun hc21 => absurd hc21 (by decide))
        refine lv_aload_n hx hb d_M_alter_91 rfl (lv_at hl 2 rfl) ?_
        refine y_getr hx hb hA in_M hown hK.1 hW 0 (by omega) laym_0 rfl 10 (by decide) (hA _ k_fl_M_34) rfl d_M_alter_92 ?_
        refine lv_iconst (v := J (0)) hx hb d_M_alter_95 rfl ?_
        refine lv_iload_n hx hb d_M_alter_96 rfl (lv_at hl 3 rfl) ?_
        refine y_if_ne (tgt := 104) hx hb d_M_alter_97 (by decide) ⟨by omega, by omega⟩ (fun hc22 => ?_) (fun hc22 => absurd hc22 (by decide))
        refine lv_aload_n hx hb d_M_alter_104 rfl (lv_at hl 2 rfl) ?_
        refine y_getr hx hb hA in_M hown hK.1 hW 0 (by omega) laym_0 rfl 10 (by decide) (hA _ k_fl_M_34) rfl d_M_alter_105 ?_
        refine lv_iconst (v := J (0)) hx hb d_M_alter_108 rfl ?_
        refine y_iald hx hb hK.1 hW 9 (by omega) laym_9 rfl (by decide) 0 (by omega) (by omega) d_M_alter_109 ?_
        refine y_iast hx hb hK.1 hW 9 (by omega) laym_9 rfl (by decide) hS hAr 0 (by omega) (by omega) d_M_alter_110 (fun H locs hW hS => ?_)
        refine lv_aload_n hx hb d_M_alter_111 rfl (lv_at hl 2 rfl) ?_
        refine y_getr hx hb hA in_M hown hK.1 hW 0 (by omega) laym_0 rfl 11 (by decide) (hA _ k_fl_M_37) rfl d_M_alter_112 ?_
        refine lv_iconst (v := J (0)) hx hb d_M_alter_115 rfl ?_
        refine lv_iload_n hx hb d_M_alter_116 rfl (lv_at hl 3 rfl) ?_
        refine lv_iconst (v := J (1)) hx hb d_M_alter_117 rfl ?_
        refine y_icmp_ne (tgt := 125) hx hb d_M_alter_118 (by decide) ⟨by omega, by omega⟩ ⟨by omega, by omega⟩ (fun hc23 => absurd hc23 (by decide)) (fun hc23 => ?_)
        refine lv_iload_n hx hb d_M_alter_121 rfl (lv_at hl 4 rfl) ?_
        refine lv_goto (tgt := 131) hx hb d_M_alter_122 (by decide) ?_
        refine y_iast hx hb hK.1 hW 10 (by omega) laym_10 rfl (by decide) hS hAr 0 (by omega) (by omega) d_M_alter_131 (fun H locs hW hS => ?_)
        refine lv_aload_n hx hb d_M_alter_132 rfl (lv_at hl 2 rfl) ?_
        refine y_getr hx hb hA in_M hown hK.1 hW 0 (by omega) laym_0 rfl 7 (by decide) (hA _ k_fl_M_25) rfl d_M_alter_133 ?_
        refine lv_iconst (v := J (0)) hx hb d_M_alter_136 rfl ?_
        refine lv_iload_n hx hb d_M_alter_137 rfl (lv_at hl 3 rfl) ?_
        refine lv_iconst (v := J (2)) hx hb d_M_alter_138 rfl ?_
        refine y_icmp_ne (tgt := 146) hx hb d_M_alter_139 (by decide) ⟨by omega, by omega⟩ ⟨by omega, by omega⟩ (fun hc24 => ?_) (fun hc24 => absurd hc24 (by decide))
        refine lv_aload_n hx hb d_M_alter_146 rfl (lv_at hl 2 rfl) ?_
        refine y_getr hx hb hA in_M hown hK.1 hW 0 (by omega) laym_0 rfl 7 (by decide) (hA _ k_fl_M_25) rfl d_M_alter_147 ?_
        refine lv_iconst (v := J (0)) hx hb d_M_alter_150 rfl ?_
        refine y_iald hx hb hK.1 hW 6 (by omega) laym_6 rfl (by decide) 0 (by omega) (by omega) d_M_alter_151 ?_
        rw [y2_cl (show 6 ≠ 10 by omega), y2_cl (show 6 ≠ 9 by omega)]
        refine y_iast hx hb hK.1 hW 6 (by omega) laym_6 rfl (by decide) hS hAr 0 (by omega) (by omega) d_M_alter_152 (fun H locs hW hS => ?_)
        refine lv_aload_n hx hb d_M_alter_153 rfl (lv_at hl 2 rfl) ?_
        refine y_getr hx hb hA in_M hown hK.1 hW 0 (by omega) laym_0 rfl 18 (by decide) (hA _ k_fl_M_55) rfl d_M_alter_154 ?_
        refine lv_iconst (v := J (0)) hx hb d_M_alter_157 rfl ?_
        refine lv_iload_n hx hb d_M_alter_158 rfl (lv_at hl 3 rfl) ?_
        refine lv_iconst (v := J (3)) hx hb d_M_alter_159 rfl ?_
        refine y_icmp_ne (tgt := 167) hx hb d_M_alter_160 (by decide) ⟨by omega, by omega⟩ ⟨by omega, by omega⟩ (fun hc25 => ?_) (fun hc25 => absurd hc25 (by decide))
        refine lv_aload_n hx hb d_M_alter_167 rfl (lv_at hl 2 rfl) ?_
        refine y_getr hx hb hA in_M hown hK.1 hW 0 (by omega) laym_0 rfl 18 (by decide) (hA _ k_fl_M_55) rfl d_M_alter_168 ?_
        refine lv_iconst (v := J (0)) hx hb d_M_alter_171 rfl ?_
        refine y_iald hx hb hK.1 hW 16 (by omega) laym_16 rfl (by decide) 0 (by omega) (by omega) d_M_alter_172 ?_
        rw [y2_cl (show 16 ≠ 6 by omega), y2_cl (show 16 ≠ 10 by omega), y2_cl (show 16 ≠ 9 by omega)]
        refine y_iast hx hb hK.1 hW 16 (by omega) laym_16 rfl (by decide) hS hAr 0 (by omega) (by omega) d_M_alter_173 (fun H locs hW hS => ?_)
        refine lv_aload_n hx hb d_M_alter_174 rfl (lv_at hl 2 rfl) ?_
        refine y_getr hx hb hA in_M hown hK.1 hW 0 (by omega) laym_0 rfl 20 (by decide) (hA _ k_fl_M_61) rfl d_M_alter_175 ?_
        refine lv_iconst (v := J (0)) hx hb d_M_alter_178 rfl ?_
        refine lv_iload_n hx hb d_M_alter_179 rfl (lv_at hl 3 rfl) ?_
        refine lv_iconst (v := J (4)) hx hb d_M_alter_180 rfl ?_
        refine y_icmp_ne (tgt := 188) hx hb d_M_alter_181 (by decide) ⟨by omega, by omega⟩ ⟨by omega, by omega⟩ (fun hc26 => ?_) (fun hc26 => absurd hc26 (by decide))
        refine lv_aload_n hx hb d_M_alter_188 rfl (lv_at hl 2 rfl) ?_
        refine y_getr hx hb hA in_M hown hK.1 hW 0 (by omega) laym_0 rfl 20 (by decide) (hA _ k_fl_M_61) rfl d_M_alter_189 ?_
        refine lv_iconst (v := J (0)) hx hb d_M_alter_192 rfl ?_
        refine y_iald hx hb hK.1 hW 18 (by omega) laym_18 rfl (by decide) 0 (by omega) (by omega) d_M_alter_193 ?_
        rw [y2_cl (show 18 ≠ 16 by omega), y2_cl (show 18 ≠ 6 by omega), y2_cl (show 18 ≠ 10 by omega), y2_cl (show 18 ≠ 9 by omega)]
        refine y_iast hx hb hK.1 hW 18 (by omega) laym_18 rfl (by decide) hS hAr 0 (by omega) (by omega) d_M_alter_194 (fun H locs hW hS => ?_)
        refine lv_aload_n hx hb d_M_alter_195 rfl (lv_at hl 2 rfl) ?_
        refine lv_iload_n hx hb d_M_alter_196 rfl (lv_at hl 3 rfl) ?_
        refine lv_iconst (v := J (5)) hx hb d_M_alter_197 rfl ?_
        refine y_icmp_ne (tgt := 205) hx hb d_M_alter_198 (by decide) ⟨by omega, by omega⟩ ⟨by omega, by omega⟩ (fun hc27 => ?_) (fun hc27 => absurd hc27 (by decide))
        refine lv_aload_n hx hb d_M_alter_205 rfl (lv_at hl 2 rfl) ?_
        refine y_geti hx hb hA in_M hown hK.1 hW 0 (by omega) laym_0 rfl 23 (by decide) (hA _ k_fl_M_162) rfl d_M_alter_206 ?_
        rw [y2_cl (show 0 ≠ 18 by omega), y2_cl (show 0 ≠ 16 by omega), y2_cl (show 0 ≠ 6 by omega), y2_cl (show 0 ≠ 10 by omega), y2_cl (show 0 ≠ 9 by omega)]
        refine y_puti hx hb hA in_M hown hK.1 hW 0 (by omega) laym_0 rfl 23 (by decide) t_M tk_M nm_M hS hAr (hA _ k_fl_M_162) rfl (by decide +kernel) rfl d_M_alter_209 (fun H locs hW hS => ?_)
        refine lv_iconst (v := J (1)) hx hb d_M_alter_212 rfl ?_
        exact y_retgz hx hb hr hlocks hS hW (Or.inr rfl) ⟨fun h => absurd h (by first | decide | exact hw0), fun _ => ⟨fun _ => ⟨rfl, ((y2_id rfl).trans ((y2_id rfl).trans ((y2_id rfl).trans ((y2_id rfl).trans (congrArg (fun q => y2 q 10 0 x9) ((y2_id rfl).trans rfl))))))⟩, fun h => absurd (by omega) h⟩, fun h => absurd h (by first | decide | exact hw2), fun h => absurd h (by first | decide | exact hw3), fun h => absurd h (by first | decide | exact hw4), fun h => absurd h (by first | decide | exact hw5), fun h => absurd h (by decide)⟩ d_M_alter_213
      · skip
        rw [show (if 0 ≤ x9 ∧ x9 ≤ 10008 then (1 : Int) else 0) = 0 from if_neg hq83]
        refine y_if_ne (tgt := 91) hx hb d_M_alter_86 (by decide) ⟨by omega, by omega⟩ (fun hc28 => absurd hc28 (by decide)) (fun hc28 => ?_)
        refine lv_iconst (v := J (0)) hx hb d_M_alter_89 rfl ?_
        exact y_retgz hx hb hr hlocks hS hW (Or.inl rfl) ⟨fun h => absurd h (by first | decide | exact hw0), fun _ => ⟨fun h => absurd h (by omega), fun _ => ⟨rfl, rfl⟩⟩, fun h => absurd h (by first | decide | exact hw2), fun h => absurd h (by first | decide | exact hw3), fun h => absurd h (by first | decide | exact hw4), fun h => absurd h (by first | decide | exact hw5), fun h => absurd h (by decide)⟩ d_M_alter_90
  by_cases hw2 : w9 = 2
  · skip
    subst hw2
    refine lv_iload_n hx hb d_M_alter_0 rfl (lv_at hl 1 rfl) ?_
    refine lv_iconst (v := J (2)) hx hb d_M_alter_1 rfl ?_
    refine y_icmp_eq (tgt := 10) hx hb d_M_alter_2 (by decide) hw9 ⟨by omega, by omega⟩ (fun hc29 => ?_) (fun hc29 => absurd hc29 (by decide))
    refine lv_sipush (v := J (999)) hx hb d_M_alter_10 (by decide) ?_
    refine lv_goto (tgt := 30) hx hb d_M_alter_13 (by decide) ?_
    refine lv_istore_n (lv' := [(3, .int (J (999))), (0, .ref (z + 0)), (1, .int (J (2))), (2, .int (J (x9)))]) hx hb d_M_alter_30 rfl hl (by decide) rfl (fun ls hl => ?_)
    refine lv_iload_n hx hb d_M_alter_31 rfl (lv_at hl 2 rfl) ?_
    refine lv_iconst (v := J (5)) hx hb d_M_alter_32 rfl ?_
    refine y_icmp_ne (tgt := 40) hx hb d_M_alter_33 (by decide) hw9 ⟨by omega, by omega⟩ (fun hc30 => ?_) (fun hc30 => absurd hc30 (by decide))
    refine lv_iload_n hx hb d_M_alter_40 rfl (lv_at hl 2 rfl) ?_
    refine lv_iconst (v := J (0)) hx hb d_M_alter_41 rfl ?_
    refine lv_iconst (v := J (2)) hx hb d_M_alter_42 rfl ?_
    refine y_ci (y_runS (As := [.int (J (2)), .int (J (0)), .int (J (2))]) (rest := []) ⟨hx, hb, hml, hown, hts⟩ (c_M_in l G (2) (0) (2) hw9 ⟨by omega, by omega⟩ ⟨by omega, by omega⟩) 3 k_co_M_in k_ml_M_110 k_st_M_in k_in_M rfl rfl (by decide +kernel) ⟨Nat.le_of_ble_eq_true rfl, Nat.le_of_ble_eq_true rfl⟩ (yPs0 (yK_bl G) (yK_mv G) hK) rfl hl.1 rfl (Nat.le_of_ble_eq_true rfl) d_M_alter_43 ⟨Nat.zero_le _, Nat.zero_le _⟩) hS hW (fun H locs hW hS => ?_)
    rw [if_pos (by decide)]
    refine y_if_eq (tgt := 56) hx hb d_M_alter_46 (by decide) ⟨by omega, by omega⟩ (fun hc31 => absurd hc31 (by decide)) (fun hc31 => ?_)
    refine lv_aload_n hx hb d_M_alter_49 rfl (lv_at hl 1 rfl) ?_
    refine y_geti hx hb hA in_M hown hK.1 hW 0 (by omega) laym_0 rfl 4 (by decide) (hA _ k_fl_M_153) rfl d_M_alter_50 ?_
    rw [hs]
    refine lv_goto (tgt := 73) hx hb d_M_alter_53 (by decide) ?_
    refine lv_istore (lv' := [(4, .int (J ((ns : Int)))), (3, .int (J (999))), (0, .ref (z + 0)), (1, .int (J (2))), (2, .int (J (x9)))]) hx hb d_M_alter_73 hl (by decide) rfl (fun ls hl => ?_)
    refine lv_iload hx hb d_M_alter_75 (lv_at hl 0 rfl) ?_
    refine y_if_eq (tgt := 89) hx hb d_M_alter_77 (by decide) ⟨by omega, by omega⟩ (fun hc32 => ?_) (fun hc32 => ?_)
    · skip
      refine lv_iconst (v := J (0)) hx hb d_M_alter_89 rfl ?_
      exact y_retgz hx hb hr hlocks hS hW (Or.inl rfl) ⟨fun h => absurd h (by first | decide | exact hw0), fun h => absurd h (by first | decide | exact hw1), fun _ => ⟨fun h => absurd h (by omega), fun _ => ⟨rfl, rfl⟩⟩, fun h => absurd h (by first | decide | exact hw3), fun h => absurd h (by first | decide | exact hw4), fun h => absurd h (by first | decide | exact hw5), fun h => absurd h (by decide)⟩ d_M_alter_90
    · skip
      refine lv_iload_n hx hb d_M_alter_80 rfl (lv_at hl 4 rfl) ?_
      refine lv_iconst (v := J (0)) hx hb d_M_alter_81 rfl ?_
      refine lv_iload_n hx hb d_M_alter_82 rfl (lv_at hl 1 rfl) ?_
      refine y_ci (y_runS (As := [.int (J (x9)), .int (J (0)), .int (J (999))]) (rest := []) ⟨hx, hb, hml, hown, hts⟩ (c_M_in l G (x9) (0) (999) hx9 ⟨by omega, by omega⟩ ⟨by omega, by omega⟩) 3 k_co_M_in k_ml_M_110 k_st_M_in k_in_M rfl rfl (by decide +kernel) ⟨Nat.le_of_ble_eq_true rfl, Nat.le_of_ble_eq_true rfl⟩ (yPs0 (yK_bl G) (yK_mv G) hK) rfl hl.1 rfl (Nat.le_of_ble_eq_true rfl) d_M_alter_83 ⟨Nat.zero_le _, Nat.zero_le _⟩) hS hW (fun H locs hW hS => ?_)
      by_cases hq83 : 0 ≤ x9 ∧ x9 ≤ 999
      · skip
        rw [show (if 0 ≤ x9 ∧ x9 ≤ 999 then (1 : Int) else 0) = 1 from if_pos hq83]
        refine y_if_ne (tgt := 91) hx hb d_M_alter_86 (by decide) ⟨by omega, by omega⟩ (fun hc33 => ?_) (fun hc33 => absurd hc33 (by decide))
        refine lv_aload_n hx hb d_M_alter_91 rfl (lv_at hl 2 rfl) ?_
        refine y_getr hx hb hA in_M hown hK.1 hW 0 (by omega) laym_0 rfl 10 (by decide) (hA _ k_fl_M_34) rfl d_M_alter_92 ?_
        refine lv_iconst (v := J (0)) hx hb d_M_alter_95 rfl ?_
        refine lv_iload_n hx hb d_M_alter_96 rfl (lv_at hl 3 rfl) ?_
        refine y_if_ne (tgt := 104) hx hb d_M_alter_97 (by decide) ⟨by omega, by omega⟩ (fun hc34 => ?_) (fun hc34 => absurd hc34 (by decide))
        refine lv_aload_n hx hb d_M_alter_104 rfl (lv_at hl 2 rfl) ?_
        refine y_getr hx hb hA in_M hown hK.1 hW 0 (by omega) laym_0 rfl 10 (by decide) (hA _ k_fl_M_34) rfl d_M_alter_105 ?_
        refine lv_iconst (v := J (0)) hx hb d_M_alter_108 rfl ?_
        refine y_iald hx hb hK.1 hW 9 (by omega) laym_9 rfl (by decide) 0 (by omega) (by omega) d_M_alter_109 ?_
        refine y_iast hx hb hK.1 hW 9 (by omega) laym_9 rfl (by decide) hS hAr 0 (by omega) (by omega) d_M_alter_110 (fun H locs hW hS => ?_)
        refine lv_aload_n hx hb d_M_alter_111 rfl (lv_at hl 2 rfl) ?_
        refine y_getr hx hb hA in_M hown hK.1 hW 0 (by omega) laym_0 rfl 11 (by decide) (hA _ k_fl_M_37) rfl d_M_alter_112 ?_
        refine lv_iconst (v := J (0)) hx hb d_M_alter_115 rfl ?_
        refine lv_iload_n hx hb d_M_alter_116 rfl (lv_at hl 3 rfl) ?_
        refine lv_iconst (v := J (1)) hx hb d_M_alter_117 rfl ?_
        refine y_icmp_ne (tgt := 125) hx hb d_M_alter_118 (by decide) ⟨by omega, by omega⟩ ⟨by omega, by omega⟩ (fun hc35 => ?_) (fun hc35 => absurd hc35 (by decide))
        refine lv_aload_n hx hb d_M_alter_125 rfl (lv_at hl 2 rfl) ?_
        refine y_getr hx hb hA in_M hown hK.1 hW 0 (by omega) laym_0 rfl 11 (by decide) (hA _ k_fl_M_37) rfl d_M_alter_126 ?_
        refine lv_iconst (v := J (0)) hx hb d_M_alter_129 rfl ?_
        refine y_iald hx hb hK.1 hW 10 (by omega) laym_10 rfl (by decide) 0 (by omega) (by omega) d_M_alter_130 ?_
        rw [y2_cl (show 10 ≠ 9 by omega)]
        refine y_iast hx hb hK.1 hW 10 (by omega) laym_10 rfl (by decide) hS hAr 0 (by omega) (by omega) d_M_alter_131 (fun H locs hW hS => ?_)
        refine lv_aload_n hx hb d_M_alter_132 rfl (lv_at hl 2 rfl) ?_
        refine y_getr hx hb hA in_M hown hK.1 hW 0 (by omega) laym_0 rfl 7 (by decide) (hA _ k_fl_M_25) rfl d_M_alter_133 ?_
        refine lv_iconst (v := J (0)) hx hb d_M_alter_136 rfl ?_
        refine lv_iload_n hx hb d_M_alter_137 rfl (lv_at hl 3 rfl) ?_
        refine lv_iconst (v := J (2)) hx hb d_M_alter_138 rfl ?_
        refine y_icmp_ne (tgt := 146) hx hb d_M_alter_139 (by decide) ⟨by omega, by omega⟩ ⟨by omega, by omega⟩ (fun hc36 => absurd hc36 (by decide)) (fun hc36 => ?_)
        refine lv_iload_n hx hb d_M_alter_142 rfl (lv_at hl 4 rfl) ?_
        refine lv_goto (tgt := 152) hx hb d_M_alter_143 (by decide) ?_
        refine y_iast hx hb hK.1 hW 6 (by omega) laym_6 rfl (by decide) hS hAr 0 (by omega) (by omega) d_M_alter_152 (fun H locs hW hS => ?_)
        refine lv_aload_n hx hb d_M_alter_153 rfl (lv_at hl 2 rfl) ?_
        refine y_getr hx hb hA in_M hown hK.1 hW 0 (by omega) laym_0 rfl 18 (by decide) (hA _ k_fl_M_55) rfl d_M_alter_154 ?_
        refine lv_iconst (v := J (0)) hx hb d_M_alter_157 rfl ?_
        refine lv_iload_n hx hb d_M_alter_158 rfl (lv_at hl 3 rfl) ?_
        refine lv_iconst (v := J (3)) hx hb d_M_alter_159 rfl ?_
        refine y_icmp_ne (tgt := 167) hx hb d_M_alter_160 (by decide) ⟨by omega, by omega⟩ ⟨by omega, by omega⟩ (fun hc37 => ?_) (fun hc37 => absurd hc37 (by decide))
        refine lv_aload_n hx hb d_M_alter_167 rfl (lv_at hl 2 rfl) ?_
        refine y_getr hx hb hA in_M hown hK.1 hW 0 (by omega) laym_0 rfl 18 (by decide) (hA _ k_fl_M_55) rfl d_M_alter_168 ?_
        refine lv_iconst (v := J (0)) hx hb d_M_alter_171 rfl ?_
        refine y_iald hx hb hK.1 hW 16 (by omega) laym_16 rfl (by decide) 0 (by omega) (by omega) d_M_alter_172 ?_
        rw [y2_cl (show 16 ≠ 6 by omega), y2_cl (show 16 ≠ 10 by omega), y2_cl (show 16 ≠ 9 by omega)]
        refine y_iast hx hb hK.1 hW 16 (by omega) laym_16 rfl (by decide) hS hAr 0 (by omega) (by omega) d_M_alter_173 (fun H locs hW hS => ?_)
        refine lv_aload_n hx hb d_M_alter_174 rfl (lv_at hl 2 rfl) ?_
        refine y_getr hx hb hA in_M hown hK.1 hW 0 (by omega) laym_0 rfl 20 (by decide) (hA _ k_fl_M_61) rfl d_M_alter_175 ?_
        refine lv_iconst (v := J (0)) hx hb d_M_alter_178 rfl ?_
        refine lv_iload_n hx hb d_M_alter_179 rfl (lv_at hl 3 rfl) ?_
        refine lv_iconst (v := J (4)) hx hb d_M_alter_180 rfl ?_
        refine y_icmp_ne (tgt := 188) hx hb d_M_alter_181 (by decide) ⟨by omega, by omega⟩ ⟨by omega, by omega⟩ (fun hc38 => ?_) (fun hc38 => absurd hc38 (by decide))
        refine lv_aload_n hx hb d_M_alter_188 rfl (lv_at hl 2 rfl) ?_
        refine y_getr hx hb hA in_M hown hK.1 hW 0 (by omega) laym_0 rfl 20 (by decide) (hA _ k_fl_M_61) rfl d_M_alter_189 ?_
        refine lv_iconst (v := J (0)) hx hb d_M_alter_192 rfl ?_
        refine y_iald hx hb hK.1 hW 18 (by omega) laym_18 rfl (by decide) 0 (by omega) (by omega) d_M_alter_193 ?_
        rw [y2_cl (show 18 ≠ 16 by omega), y2_cl (show 18 ≠ 6 by omega), y2_cl (show 18 ≠ 10 by omega), y2_cl (show 18 ≠ 9 by omega)]
        refine y_iast hx hb hK.1 hW 18 (by omega) laym_18 rfl (by decide) hS hAr 0 (by omega) (by omega) d_M_alter_194 (fun H locs hW hS => ?_)
        refine lv_aload_n hx hb d_M_alter_195 rfl (lv_at hl 2 rfl) ?_
        refine lv_iload_n hx hb d_M_alter_196 rfl (lv_at hl 3 rfl) ?_
        refine lv_iconst (v := J (5)) hx hb d_M_alter_197 rfl ?_
        refine y_icmp_ne (tgt := 205) hx hb d_M_alter_198 (by decide) ⟨by omega, by omega⟩ ⟨by omega, by omega⟩ (fun hc39 => ?_) (fun hc39 => absurd hc39 (by decide))
        refine lv_aload_n hx hb d_M_alter_205 rfl (lv_at hl 2 rfl) ?_
        refine y_geti hx hb hA in_M hown hK.1 hW 0 (by omega) laym_0 rfl 23 (by decide) (hA _ k_fl_M_162) rfl d_M_alter_206 ?_
        rw [y2_cl (show 0 ≠ 18 by omega), y2_cl (show 0 ≠ 16 by omega), y2_cl (show 0 ≠ 6 by omega), y2_cl (show 0 ≠ 10 by omega), y2_cl (show 0 ≠ 9 by omega)]
        refine y_puti hx hb hA in_M hown hK.1 hW 0 (by omega) laym_0 rfl 23 (by decide) t_M tk_M nm_M hS hAr (hA _ k_fl_M_162) rfl (by decide +kernel) rfl d_M_alter_209 (fun H locs hW hS => ?_)
        refine lv_iconst (v := J (1)) hx hb d_M_alter_212 rfl ?_
        exact y_retgz hx hb hr hlocks hS hW (Or.inr rfl) ⟨fun h => absurd h (by first | decide | exact hw0), fun h => absurd h (by first | decide | exact hw1), fun _ => ⟨fun _ => ⟨rfl, ((y2_id rfl).trans ((y2_id rfl).trans ((y2_id rfl).trans (congrArg (fun q => y2 q 6 0 x9) ((y2_id rfl).trans ((y2_id rfl).trans rfl))))))⟩, fun h => absurd (by omega) h⟩, fun h => absurd h (by first | decide | exact hw3), fun h => absurd h (by first | decide | exact hw4), fun h => absurd h (by first | decide | exact hw5), fun h => absurd h (by decide)⟩ d_M_alter_213
      · skip
        rw [show (if 0 ≤ x9 ∧ x9 ≤ 999 then (1 : Int) else 0) = 0 from if_neg hq83]
        refine y_if_ne (tgt := 91) hx hb d_M_alter_86 (by decide) ⟨by omega, by omega⟩ (fun hc40 => absurd hc40 (by decide)) (fun hc40 => ?_)
        refine lv_iconst (v := J (0)) hx hb d_M_alter_89 rfl ?_
        exact y_retgz hx hb hr hlocks hS hW (Or.inl rfl) ⟨fun h => absurd h (by first | decide | exact hw0), fun h => absurd h (by first | decide | exact hw1), fun _ => ⟨fun h => absurd h (by omega), fun _ => ⟨rfl, rfl⟩⟩, fun h => absurd h (by first | decide | exact hw3), fun h => absurd h (by first | decide | exact hw4), fun h => absurd h (by first | decide | exact hw5), fun h => absurd h (by decide)⟩ d_M_alter_90
  by_cases hw3 : w9 = 3
  · skip
    subst hw3
    refine lv_iload_n hx hb d_M_alter_0 rfl (lv_at hl 1 rfl) ?_
    refine lv_iconst (v := J (2)) hx hb d_M_alter_1 rfl ?_
    refine y_icmp_eq (tgt := 10) hx hb d_M_alter_2 (by decide) hw9 ⟨by omega, by omega⟩ (fun hc41 => absurd hc41 (by decide)) (fun hc41 => ?_)
    refine lv_iload_n hx hb d_M_alter_5 rfl (lv_at hl 1 rfl) ?_
    refine lv_iconst (v := J (4)) hx hb d_M_alter_6 rfl ?_
    refine y_icmp_ne (tgt := 16) hx hb d_M_alter_7 (by decide) hw9 ⟨by omega, by omega⟩ (fun hc42 => ?_) (fun hc42 => absurd hc42 (by decide))
    refine lv_iload_n hx hb d_M_alter_16 rfl (lv_at hl 1 rfl) ?_
    refine lv_iconst (v := J (5)) hx hb d_M_alter_17 rfl ?_
    refine y_icmp_ne (tgt := 27) hx hb d_M_alter_18 (by decide) hw9 ⟨by omega, by omega⟩ (fun hc43 => ?_) (fun hc43 => absurd hc43 (by decide))
    refine lv_sipush (v := J (10008)) hx hb d_M_alter_27 (by decide) ?_
    refine lv_istore_n (lv' := [(3, .int (J (10008))), (0, .ref (z + 0)), (1, .int (J (3))), (2, .int (J (x9)))]) hx hb d_M_alter_30 rfl hl (by decide) rfl (fun ls hl => ?_)
    refine lv_iload_n hx hb d_M_alter_31 rfl (lv_at hl 2 rfl) ?_
    refine lv_iconst (v := J (5)) hx hb d_M_alter_32 rfl ?_
    refine y_icmp_ne (tgt := 40) hx hb d_M_alter_33 (by decide) hw9 ⟨by omega, by omega⟩ (fun hc44 => ?_) (fun hc44 => absurd hc44 (by decide))
    refine lv_iload_n hx hb d_M_alter_40 rfl (lv_at hl 2 rfl) ?_
    refine lv_iconst (v := J (0)) hx hb d_M_alter_41 rfl ?_
    refine lv_iconst (v := J (2)) hx hb d_M_alter_42 rfl ?_
    refine y_ci (y_runS (As := [.int (J (3)), .int (J (0)), .int (J (2))]) (rest := []) ⟨hx, hb, hml, hown, hts⟩ (c_M_in l G (3) (0) (2) hw9 ⟨by omega, by omega⟩ ⟨by omega, by omega⟩) 3 k_co_M_in k_ml_M_110 k_st_M_in k_in_M rfl rfl (by decide +kernel) ⟨Nat.le_of_ble_eq_true rfl, Nat.le_of_ble_eq_true rfl⟩ (yPs0 (yK_bl G) (yK_mv G) hK) rfl hl.1 rfl (Nat.le_of_ble_eq_true rfl) d_M_alter_43 ⟨Nat.zero_le _, Nat.zero_le _⟩) hS hW (fun H locs hW hS => ?_)
    rw [if_neg (by decide)]
    refine y_if_eq (tgt := 56) hx hb d_M_alter_46 (by decide) ⟨by omega, by omega⟩ (fun hc45 => ?_) (fun hc45 => absurd hc45 (by decide))
    refine lv_iload_n hx hb d_M_alter_56 rfl (lv_at hl 2 rfl) ?_
    refine lv_iconst (v := J (3)) hx hb d_M_alter_57 rfl ?_
    refine lv_iconst (v := J (4)) hx hb d_M_alter_58 rfl ?_
    refine y_ci (y_runS (As := [.int (J (3)), .int (J (3)), .int (J (4))]) (rest := []) ⟨hx, hb, hml, hown, hts⟩ (c_M_in l G (3) (3) (4) hw9 ⟨by omega, by omega⟩ ⟨by omega, by omega⟩) 3 k_co_M_in k_ml_M_110 k_st_M_in k_in_M rfl rfl (by decide +kernel) ⟨Nat.le_of_ble_eq_true rfl, Nat.le_of_ble_eq_true rfl⟩ (yPs0 (yK_bl G) (yK_mv G) hK) rfl hl.1 rfl (Nat.le_of_ble_eq_true rfl) d_M_alter_59 ⟨Nat.zero_le _, Nat.zero_le _⟩) hS hW (fun H locs hW hS => ?_)
    rw [if_pos (by decide)]
    refine y_if_eq (tgt := 72) hx hb d_M_alter_62 (by decide) ⟨by omega, by omega⟩ (fun hc46 => absurd hc46 (by decide)) (fun hc46 => ?_)
    refine lv_aload_n hx hb d_M_alter_65 rfl (lv_at hl 1 rfl) ?_
    refine y_geti hx hb hA in_M hown hK.1 hW 0 (by omega) laym_0 rfl 13 (by decide) (hA _ k_fl_M_156) rfl d_M_alter_66 ?_
    rw [ho]
    refine lv_goto (tgt := 73) hx hb d_M_alter_69 (by decide) ?_
    refine lv_istore (lv' := [(4, .int (J ((no : Int)))), (3, .int (J (10008))), (0, .ref (z + 0)), (1, .int (J (3))), (2, .int (J (x9)))]) hx hb d_M_alter_73 hl (by decide) rfl (fun ls hl => ?_)
    refine lv_iload hx hb d_M_alter_75 (lv_at hl 0 rfl) ?_
    refine y_if_eq (tgt := 89) hx hb d_M_alter_77 (by decide) ⟨by omega, by omega⟩ (fun hc47 => ?_) (fun hc47 => ?_)
    · skip
      refine lv_iconst (v := J (0)) hx hb d_M_alter_89 rfl ?_
      exact y_retgz hx hb hr hlocks hS hW (Or.inl rfl) ⟨fun h => absurd h (by first | decide | exact hw0), fun h => absurd h (by first | decide | exact hw1), fun h => absurd h (by first | decide | exact hw2), fun _ => ⟨fun h => absurd h (by omega), fun _ => ⟨rfl, rfl⟩⟩, fun h => absurd h (by first | decide | exact hw4), fun h => absurd h (by first | decide | exact hw5), fun h => absurd h (by decide)⟩ d_M_alter_90
    · skip
      refine lv_iload_n hx hb d_M_alter_80 rfl (lv_at hl 4 rfl) ?_
      refine lv_iconst (v := J (0)) hx hb d_M_alter_81 rfl ?_
      refine lv_iload_n hx hb d_M_alter_82 rfl (lv_at hl 1 rfl) ?_
      refine y_ci (y_runS (As := [.int (J (x9)), .int (J (0)), .int (J (10008))]) (rest := []) ⟨hx, hb, hml, hown, hts⟩ (c_M_in l G (x9) (0) (10008) hx9 ⟨by omega, by omega⟩ ⟨by omega, by omega⟩) 3 k_co_M_in k_ml_M_110 k_st_M_in k_in_M rfl rfl (by decide +kernel) ⟨Nat.le_of_ble_eq_true rfl, Nat.le_of_ble_eq_true rfl⟩ (yPs0 (yK_bl G) (yK_mv G) hK) rfl hl.1 rfl (Nat.le_of_ble_eq_true rfl) d_M_alter_83 ⟨Nat.zero_le _, Nat.zero_le _⟩) hS hW (fun H locs hW hS => ?_)
      by_cases hq83 : 0 ≤ x9 ∧ x9 ≤ 10008
      · skip
        rw [show (if 0 ≤ x9 ∧ x9 ≤ 10008 then (1 : Int) else 0) = 1 from if_pos hq83]
        refine y_if_ne (tgt := 91) hx hb d_M_alter_86 (by decide) ⟨by omega, by omega⟩ (fun hc48 => ?_) (fun hc48 => absurd hc48 (by decide))
        refine lv_aload_n hx hb d_M_alter_91 rfl (lv_at hl 2 rfl) ?_
        refine y_getr hx hb hA in_M hown hK.1 hW 0 (by omega) laym_0 rfl 10 (by decide) (hA _ k_fl_M_34) rfl d_M_alter_92 ?_
        refine lv_iconst (v := J (0)) hx hb d_M_alter_95 rfl ?_
        refine lv_iload_n hx hb d_M_alter_96 rfl (lv_at hl 3 rfl) ?_
        refine y_if_ne (tgt := 104) hx hb d_M_alter_97 (by decide) ⟨by omega, by omega⟩ (fun hc49 => ?_) (fun hc49 => absurd hc49 (by decide))
        refine lv_aload_n hx hb d_M_alter_104 rfl (lv_at hl 2 rfl) ?_
        refine y_getr hx hb hA in_M hown hK.1 hW 0 (by omega) laym_0 rfl 10 (by decide) (hA _ k_fl_M_34) rfl d_M_alter_105 ?_
        refine lv_iconst (v := J (0)) hx hb d_M_alter_108 rfl ?_
        refine y_iald hx hb hK.1 hW 9 (by omega) laym_9 rfl (by decide) 0 (by omega) (by omega) d_M_alter_109 ?_
        refine y_iast hx hb hK.1 hW 9 (by omega) laym_9 rfl (by decide) hS hAr 0 (by omega) (by omega) d_M_alter_110 (fun H locs hW hS => ?_)
        refine lv_aload_n hx hb d_M_alter_111 rfl (lv_at hl 2 rfl) ?_
        refine y_getr hx hb hA in_M hown hK.1 hW 0 (by omega) laym_0 rfl 11 (by decide) (hA _ k_fl_M_37) rfl d_M_alter_112 ?_
        refine lv_iconst (v := J (0)) hx hb d_M_alter_115 rfl ?_
        refine lv_iload_n hx hb d_M_alter_116 rfl (lv_at hl 3 rfl) ?_
        refine lv_iconst (v := J (1)) hx hb d_M_alter_117 rfl ?_
        refine y_icmp_ne (tgt := 125) hx hb d_M_alter_118 (by decide) ⟨by omega, by omega⟩ ⟨by omega, by omega⟩ (fun hc50 => ?_) (fun hc50 => absurd hc50 (by decide))
        refine lv_aload_n hx hb d_M_alter_125 rfl (lv_at hl 2 rfl) ?_
        refine y_getr hx hb hA in_M hown hK.1 hW 0 (by omega) laym_0 rfl 11 (by decide) (hA _ k_fl_M_37) rfl d_M_alter_126 ?_
        refine lv_iconst (v := J (0)) hx hb d_M_alter_129 rfl ?_
        refine y_iald hx hb hK.1 hW 10 (by omega) laym_10 rfl (by decide) 0 (by omega) (by omega) d_M_alter_130 ?_
        rw [y2_cl (show 10 ≠ 9 by omega)]
        refine y_iast hx hb hK.1 hW 10 (by omega) laym_10 rfl (by decide) hS hAr 0 (by omega) (by omega) d_M_alter_131 (fun H locs hW hS => ?_)
        refine lv_aload_n hx hb d_M_alter_132 rfl (lv_at hl 2 rfl) ?_
        refine y_getr hx hb hA in_M hown hK.1 hW 0 (by omega) laym_0 rfl 7 (by decide) (hA _ k_fl_M_25) rfl d_M_alter_133 ?_
        refine lv_iconst (v := J (0)) hx hb d_M_alter_136 rfl ?_
        refine lv_iload_n hx hb d_M_alter_137 rfl (lv_at hl 3 rfl) ?_
        refine lv_iconst (v := J (2)) hx hb d_M_alter_138 rfl ?_
        refine y_icmp_ne (tgt := 146) hx hb d_M_alter_139 (by decide) ⟨by omega, by omega⟩ ⟨by omega, by omega⟩ (fun hc51 => ?_) (fun hc51 => absurd hc51 (by decide))
        refine lv_aload_n hx hb d_M_alter_146 rfl (lv_at hl 2 rfl) ?_
        refine y_getr hx hb hA in_M hown hK.1 hW 0 (by omega) laym_0 rfl 7 (by decide) (hA _ k_fl_M_25) rfl d_M_alter_147 ?_
        refine lv_iconst (v := J (0)) hx hb d_M_alter_150 rfl ?_
        refine y_iald hx hb hK.1 hW 6 (by omega) laym_6 rfl (by decide) 0 (by omega) (by omega) d_M_alter_151 ?_
        rw [y2_cl (show 6 ≠ 10 by omega), y2_cl (show 6 ≠ 9 by omega)]
        refine y_iast hx hb hK.1 hW 6 (by omega) laym_6 rfl (by decide) hS hAr 0 (by omega) (by omega) d_M_alter_152 (fun H locs hW hS => ?_)
        refine lv_aload_n hx hb d_M_alter_153 rfl (lv_at hl 2 rfl) ?_
        refine y_getr hx hb hA in_M hown hK.1 hW 0 (by omega) laym_0 rfl 18 (by decide) (hA _ k_fl_M_55) rfl d_M_alter_154 ?_
        refine lv_iconst (v := J (0)) hx hb d_M_alter_157 rfl ?_
        refine lv_iload_n hx hb d_M_alter_158 rfl (lv_at hl 3 rfl) ?_
        refine lv_iconst (v := J (3)) hx hb d_M_alter_159 rfl ?_
        refine y_icmp_ne (tgt := 167) hx hb d_M_alter_160 (by decide) ⟨by omega, by omega⟩ ⟨by omega, by omega⟩ (fun hc52 => absurd hc52 (by decide)) (fun hc52 => ?_)
        refine lv_iload_n hx hb d_M_alter_163 rfl (lv_at hl 4 rfl) ?_
        refine lv_goto (tgt := 173) hx hb d_M_alter_164 (by decide) ?_
        refine y_iast hx hb hK.1 hW 16 (by omega) laym_16 rfl (by decide) hS hAr 0 (by omega) (by omega) d_M_alter_173 (fun H locs hW hS => ?_)
        refine lv_aload_n hx hb d_M_alter_174 rfl (lv_at hl 2 rfl) ?_
        refine y_getr hx hb hA in_M hown hK.1 hW 0 (by omega) laym_0 rfl 20 (by decide) (hA _ k_fl_M_61) rfl d_M_alter_175 ?_
        refine lv_iconst (v := J (0)) hx hb d_M_alter_178 rfl ?_
        refine lv_iload_n hx hb d_M_alter_179 rfl (lv_at hl 3 rfl) ?_
        refine lv_iconst (v := J (4)) hx hb d_M_alter_180 rfl ?_
        refine y_icmp_ne (tgt := 188) hx hb d_M_alter_181 (by decide) ⟨by omega, by omega⟩ ⟨by omega, by omega⟩ (fun hc53 => ?_) (fun hc53 => absurd hc53 (by decide))
        refine lv_aload_n hx hb d_M_alter_188 rfl (lv_at hl 2 rfl) ?_
        refine y_getr hx hb hA in_M hown hK.1 hW 0 (by omega) laym_0 rfl 20 (by decide) (hA _ k_fl_M_61) rfl d_M_alter_189 ?_
        refine lv_iconst (v := J (0)) hx hb d_M_alter_192 rfl ?_
        refine y_iald hx hb hK.1 hW 18 (by omega) laym_18 rfl (by decide) 0 (by omega) (by omega) d_M_alter_193 ?_
        rw [y2_cl (show 18 ≠ 16 by omega), y2_cl (show 18 ≠ 6 by omega), y2_cl (show 18 ≠ 10 by omega), y2_cl (show 18 ≠ 9 by omega)]
        refine y_iast hx hb hK.1 hW 18 (by omega) laym_18 rfl (by decide) hS hAr 0 (by omega) (by omega) d_M_alter_194 (fun H locs hW hS => ?_)
        refine lv_aload_n hx hb d_M_alter_195 rfl (lv_at hl 2 rfl) ?_
        refine lv_iload_n hx hb d_M_alter_196 rfl (lv_at hl 3 rfl) ?_
        refine lv_iconst (v := J (5)) hx hb d_M_alter_197 rfl ?_
        refine y_icmp_ne (tgt := 205) hx hb d_M_alter_198 (by decide) ⟨by omega, by omega⟩ ⟨by omega, by omega⟩ (fun hc54 => ?_) (fun hc54 => absurd hc54 (by decide))
        refine lv_aload_n hx hb d_M_alter_205 rfl (lv_at hl 2 rfl) ?_
        refine y_geti hx hb hA in_M hown hK.1 hW 0 (by omega) laym_0 rfl 23 (by decide) (hA _ k_fl_M_162) rfl d_M_alter_206 ?_
        rw [y2_cl (show 0 ≠ 18 by omega), y2_cl (show 0 ≠ 16 by omega), y2_cl (show 0 ≠ 6 by omega), y2_cl (show 0 ≠ 10 by omega), y2_cl (show 0 ≠ 9 by omega)]
        refine y_puti hx hb hA in_M hown hK.1 hW 0 (by omega) laym_0 rfl 23 (by decide) t_M tk_M nm_M hS hAr (hA _ k_fl_M_162) rfl (by decide +kernel) rfl d_M_alter_209 (fun H locs hW hS => ?_)
        refine lv_iconst (v := J (1)) hx hb d_M_alter_212 rfl ?_
        exact y_retgz hx hb hr hlocks hS hW (Or.inr rfl) ⟨fun h => absurd h (by first | decide | exact hw0), fun h => absurd h (by first | decide | exact hw1), fun h => absurd h (by first | decide | exact hw2), fun _ => ⟨fun _ => ⟨rfl, ((y2_id rfl).trans ((y2_id rfl).trans (congrArg (fun q => y2 q 16 0 x9) ((y2_id rfl).trans ((y2_id rfl).trans ((y2_id rfl).trans rfl))))))⟩, fun h => absurd (by omega) h⟩, fun h => absurd h (by first | decide | exact hw4), fun h => absurd h (by first | decide | exact hw5), fun h => absurd h (by decide)⟩ d_M_alter_213
      · skip
        rw [show (if 0 ≤ x9 ∧ x9 ≤ 10008 then (1 : Int) else 0) = 0 from if_neg hq83]
        refine y_if_ne (tgt := 91) hx hb d_M_alter_86 (by decide) ⟨by omega, by omega⟩ (fun hc55 => absurd hc55 (by decide)) (fun hc55 => ?_)
        refine lv_iconst (v := J (0)) hx hb d_M_alter_89 rfl ?_
        exact y_retgz hx hb hr hlocks hS hW (Or.inl rfl) ⟨fun h => absurd h (by first | decide | exact hw0), fun h => absurd h (by first | decide | exact hw1), fun h => absurd h (by first | decide | exact hw2), fun _ => ⟨fun h => absurd h (by omega), fun _ => ⟨rfl, rfl⟩⟩, fun h => absurd h (by first | decide | exact hw4), fun h => absurd h (by first | decide | exact hw5), fun h => absurd h (by decide)⟩ d_M_alter_90
  by_cases hw4 : w9 = 4
  · skip
    subst hw4
    refine lv_iload_n hx hb d_M_alter_0 rfl (lv_at hl 1 rfl) ?_
    refine lv_iconst (v := J (2)) hx hb d_M_alter_1 rfl ?_
    refine y_icmp_eq (tgt := 10) hx hb d_M_alter_2 (by decide) hw9 ⟨by omega, by omega⟩ (fun hc56 => absurd hc56 (by decide)) (fun hc56 => ?_)
    refine lv_iload_n hx hb d_M_alter_5 rfl (lv_at hl 1 rfl) ?_
    refine lv_iconst (v := J (4)) hx hb d_M_alter_6 rfl ?_
    refine y_icmp_ne (tgt := 16) hx hb d_M_alter_7 (by decide) hw9 ⟨by omega, by omega⟩ (fun hc57 => absurd hc57 (by decide)) (fun hc57 => ?_)
    refine lv_sipush (v := J (999)) hx hb d_M_alter_10 (by decide) ?_
    refine lv_goto (tgt := 30) hx hb d_M_alter_13 (by decide) ?_
    refine lv_istore_n (lv' := [(3, .int (J (999))), (0, .ref (z + 0)), (1, .int (J (4))), (2, .int (J (x9)))]) hx hb d_M_alter_30 rfl hl (by decide) rfl (fun ls hl => ?_)
    refine lv_iload_n hx hb d_M_alter_31 rfl (lv_at hl 2 rfl) ?_
    refine lv_iconst (v := J (5)) hx hb d_M_alter_32 rfl ?_
    refine y_icmp_ne (tgt := 40) hx hb d_M_alter_33 (by decide) hw9 ⟨by omega, by omega⟩ (fun hc58 => ?_) (fun hc58 => absurd hc58 (by decide))
    refine lv_iload_n hx hb d_M_alter_40 rfl (lv_at hl 2 rfl) ?_
    refine lv_iconst (v := J (0)) hx hb d_M_alter_41 rfl ?_
    refine lv_iconst (v := J (2)) hx hb d_M_alter_42 rfl ?_
    refine y_ci (y_runS (As := [.int (J (4)), .int (J (0)), .int (J (2))]) (rest := []) ⟨hx, hb, hml, hown, hts⟩ (c_M_in l G (4) (0) (2) hw9 ⟨by omega, by omega⟩ ⟨by omega, by omega⟩) 3 k_co_M_in k_ml_M_110 k_st_M_in k_in_M rfl rfl (by decide +kernel) ⟨Nat.le_of_ble_eq_true rfl, Nat.le_of_ble_eq_true rfl⟩ (yPs0 (yK_bl G) (yK_mv G) hK) rfl hl.1 rfl (Nat.le_of_ble_eq_true rfl) d_M_alter_43 ⟨Nat.zero_le _, Nat.zero_le _⟩) hS hW (fun H locs hW hS => ?_)
    rw [if_neg (by decide)]
    refine y_if_eq (tgt := 56) hx hb d_M_alter_46 (by decide) ⟨by omega, by omega⟩ (fun hc59 => ?_) (fun hc59 => absurd hc59 (by decide))
    refine lv_iload_n hx hb d_M_alter_56 rfl (lv_at hl 2 rfl) ?_
    refine lv_iconst (v := J (3)) hx hb d_M_alter_57 rfl ?_
    refine lv_iconst (v := J (4)) hx hb d_M_alter_58 rfl ?_
    refine y_ci (y_runS (As := [.int (J (4)), .int (J (3)), .int (J (4))]) (rest := []) ⟨hx, hb, hml, hown, hts⟩ (c_M_in l G (4) (3) (4) hw9 ⟨by omega, by omega⟩ ⟨by omega, by omega⟩) 3 k_co_M_in k_ml_M_110 k_st_M_in k_in_M rfl rfl (by decide +kernel) ⟨Nat.le_of_ble_eq_true rfl, Nat.le_of_ble_eq_true rfl⟩ (yPs0 (yK_bl G) (yK_mv G) hK) rfl hl.1 rfl (Nat.le_of_ble_eq_true rfl) d_M_alter_59 ⟨Nat.zero_le _, Nat.zero_le _⟩) hS hW (fun H locs hW hS => ?_)
    rw [if_pos (by decide)]
    refine y_if_eq (tgt := 72) hx hb d_M_alter_62 (by decide) ⟨by omega, by omega⟩ (fun hc60 => absurd hc60 (by decide)) (fun hc60 => ?_)
    refine lv_aload_n hx hb d_M_alter_65 rfl (lv_at hl 1 rfl) ?_
    refine y_geti hx hb hA in_M hown hK.1 hW 0 (by omega) laym_0 rfl 13 (by decide) (hA _ k_fl_M_156) rfl d_M_alter_66 ?_
    rw [ho]
    refine lv_goto (tgt := 73) hx hb d_M_alter_69 (by decide) ?_
    refine lv_istore (lv' := [(4, .int (J ((no : Int)))), (3, .int (J (999))), (0, .ref (z + 0)), (1, .int (J (4))), (2, .int (J (x9)))]) hx hb d_M_alter_73 hl (by decide) rfl (fun ls hl => ?_)
    refine lv_iload hx hb d_M_alter_75 (lv_at hl 0 rfl) ?_
    refine y_if_eq (tgt := 89) hx hb d_M_alter_77 (by decide) ⟨by omega, by omega⟩ (fun hc61 => ?_) (fun hc61 => ?_)
    · skip
      refine lv_iconst (v := J (0)) hx hb d_M_alter_89 rfl ?_
      exact y_retgz hx hb hr hlocks hS hW (Or.inl rfl) ⟨fun h => absurd h (by first | decide | exact hw0), fun h => absurd h (by first | decide | exact hw1), fun h => absurd h (by first | decide | exact hw2), fun h => absurd h (by first | decide | exact hw3), fun _ => ⟨fun h => absurd h (by omega), fun _ => ⟨rfl, rfl⟩⟩, fun h => absurd h (by first | decide | exact hw5), fun h => absurd h (by decide)⟩ d_M_alter_90
    · skip
      refine lv_iload_n hx hb d_M_alter_80 rfl (lv_at hl 4 rfl) ?_
      refine lv_iconst (v := J (0)) hx hb d_M_alter_81 rfl ?_
      refine lv_iload_n hx hb d_M_alter_82 rfl (lv_at hl 1 rfl) ?_
      refine y_ci (y_runS (As := [.int (J (x9)), .int (J (0)), .int (J (999))]) (rest := []) ⟨hx, hb, hml, hown, hts⟩ (c_M_in l G (x9) (0) (999) hx9 ⟨by omega, by omega⟩ ⟨by omega, by omega⟩) 3 k_co_M_in k_ml_M_110 k_st_M_in k_in_M rfl rfl (by decide +kernel) ⟨Nat.le_of_ble_eq_true rfl, Nat.le_of_ble_eq_true rfl⟩ (yPs0 (yK_bl G) (yK_mv G) hK) rfl hl.1 rfl (Nat.le_of_ble_eq_true rfl) d_M_alter_83 ⟨Nat.zero_le _, Nat.zero_le _⟩) hS hW (fun H locs hW hS => ?_)
      by_cases hq83 : 0 ≤ x9 ∧ x9 ≤ 999
      · skip
        rw [show (if 0 ≤ x9 ∧ x9 ≤ 999 then (1 : Int) else 0) = 1 from if_pos hq83]
        refine y_if_ne (tgt := 91) hx hb d_M_alter_86 (by decide) ⟨by omega, by omega⟩ (fun hc62 => ?_) (fun hc62 => absurd hc62 (by decide))
        refine lv_aload_n hx hb d_M_alter_91 rfl (lv_at hl 2 rfl) ?_
        refine y_getr hx hb hA in_M hown hK.1 hW 0 (by omega) laym_0 rfl 10 (by decide) (hA _ k_fl_M_34) rfl d_M_alter_92 ?_
        refine lv_iconst (v := J (0)) hx hb d_M_alter_95 rfl ?_
        refine lv_iload_n hx hb d_M_alter_96 rfl (lv_at hl 3 rfl) ?_
        refine y_if_ne (tgt := 104) hx hb d_M_alter_97 (by decide) ⟨by omega, by omega⟩ (fun hc63 => ?_) (fun hc63 => absurd hc63 (by decide))
        refine lv_aload_n hx hb d_M_alter_104 rfl (lv_at hl 2 rfl) ?_
        refine y_getr hx hb hA in_M hown hK.1 hW 0 (by omega) laym_0 rfl 10 (by decide) (hA _ k_fl_M_34) rfl d_M_alter_105 ?_
        refine lv_iconst (v := J (0)) hx hb d_M_alter_108 rfl ?_
        refine y_iald hx hb hK.1 hW 9 (by omega) laym_9 rfl (by decide) 0 (by omega) (by omega) d_M_alter_109 ?_
        refine y_iast hx hb hK.1 hW 9 (by omega) laym_9 rfl (by decide) hS hAr 0 (by omega) (by omega) d_M_alter_110 (fun H locs hW hS => ?_)
        refine lv_aload_n hx hb d_M_alter_111 rfl (lv_at hl 2 rfl) ?_
        refine y_getr hx hb hA in_M hown hK.1 hW 0 (by omega) laym_0 rfl 11 (by decide) (hA _ k_fl_M_37) rfl d_M_alter_112 ?_
        refine lv_iconst (v := J (0)) hx hb d_M_alter_115 rfl ?_
        refine lv_iload_n hx hb d_M_alter_116 rfl (lv_at hl 3 rfl) ?_
        refine lv_iconst (v := J (1)) hx hb d_M_alter_117 rfl ?_
        refine y_icmp_ne (tgt := 125) hx hb d_M_alter_118 (by decide) ⟨by omega, by omega⟩ ⟨by omega, by omega⟩ (fun hc64 => ?_) (fun hc64 => absurd hc64 (by decide))
        refine lv_aload_n hx hb d_M_alter_125 rfl (lv_at hl 2 rfl) ?_
        refine y_getr hx hb hA in_M hown hK.1 hW 0 (by omega) laym_0 rfl 11 (by decide) (hA _ k_fl_M_37) rfl d_M_alter_126 ?_
        refine lv_iconst (v := J (0)) hx hb d_M_alter_129 rfl ?_
        refine y_iald hx hb hK.1 hW 10 (by omega) laym_10 rfl (by decide) 0 (by omega) (by omega) d_M_alter_130 ?_
        rw [y2_cl (show 10 ≠ 9 by omega)]
        refine y_iast hx hb hK.1 hW 10 (by omega) laym_10 rfl (by decide) hS hAr 0 (by omega) (by omega) d_M_alter_131 (fun H locs hW hS => ?_)
        refine lv_aload_n hx hb d_M_alter_132 rfl (lv_at hl 2 rfl) ?_
        refine y_getr hx hb hA in_M hown hK.1 hW 0 (by omega) laym_0 rfl 7 (by decide) (hA _ k_fl_M_25) rfl d_M_alter_133 ?_
        refine lv_iconst (v := J (0)) hx hb d_M_alter_136 rfl ?_
        refine lv_iload_n hx hb d_M_alter_137 rfl (lv_at hl 3 rfl) ?_
        refine lv_iconst (v := J (2)) hx hb d_M_alter_138 rfl ?_
        refine y_icmp_ne (tgt := 146) hx hb d_M_alter_139 (by decide) ⟨by omega, by omega⟩ ⟨by omega, by omega⟩ (fun hc65 => ?_) (fun hc65 => absurd hc65 (by decide))
        refine lv_aload_n hx hb d_M_alter_146 rfl (lv_at hl 2 rfl) ?_
        refine y_getr hx hb hA in_M hown hK.1 hW 0 (by omega) laym_0 rfl 7 (by decide) (hA _ k_fl_M_25) rfl d_M_alter_147 ?_
        refine lv_iconst (v := J (0)) hx hb d_M_alter_150 rfl ?_
        refine y_iald hx hb hK.1 hW 6 (by omega) laym_6 rfl (by decide) 0 (by omega) (by omega) d_M_alter_151 ?_
        rw [y2_cl (show 6 ≠ 10 by omega), y2_cl (show 6 ≠ 9 by omega)]
        refine y_iast hx hb hK.1 hW 6 (by omega) laym_6 rfl (by decide) hS hAr 0 (by omega) (by omega) d_M_alter_152 (fun H locs hW hS => ?_)
        refine lv_aload_n hx hb d_M_alter_153 rfl (lv_at hl 2 rfl) ?_
        refine y_getr hx hb hA in_M hown hK.1 hW 0 (by omega) laym_0 rfl 18 (by decide) (hA _ k_fl_M_55) rfl d_M_alter_154 ?_
        refine lv_iconst (v := J (0)) hx hb d_M_alter_157 rfl ?_
        refine lv_iload_n hx hb d_M_alter_158 rfl (lv_at hl 3 rfl) ?_
        refine lv_iconst (v := J (3)) hx hb d_M_alter_159 rfl ?_
        refine y_icmp_ne (tgt := 167) hx hb d_M_alter_160 (by decide) ⟨by omega, by omega⟩ ⟨by omega, by omega⟩ (fun hc66 => ?_) (fun hc66 => absurd hc66 (by decide))
        refine lv_aload_n hx hb d_M_alter_167 rfl (lv_at hl 2 rfl) ?_
        refine y_getr hx hb hA in_M hown hK.1 hW 0 (by omega) laym_0 rfl 18 (by decide) (hA _ k_fl_M_55) rfl d_M_alter_168 ?_
        refine lv_iconst (v := J (0)) hx hb d_M_alter_171 rfl ?_
        refine y_iald hx hb hK.1 hW 16 (by omega) laym_16 rfl (by decide) 0 (by omega) (by omega) d_M_alter_172 ?_
        rw [y2_cl (show 16 ≠ 6 by omega), y2_cl (show 16 ≠ 10 by omega), y2_cl (show 16 ≠ 9 by omega)]
        refine y_iast hx hb hK.1 hW 16 (by omega) laym_16 rfl (by decide) hS hAr 0 (by omega) (by omega) d_M_alter_173 (fun H locs hW hS => ?_)
        refine lv_aload_n hx hb d_M_alter_174 rfl (lv_at hl 2 rfl) ?_
        refine y_getr hx hb hA in_M hown hK.1 hW 0 (by omega) laym_0 rfl 20 (by decide) (hA _ k_fl_M_61) rfl d_M_alter_175 ?_
        refine lv_iconst (v := J (0)) hx hb d_M_alter_178 rfl ?_
        refine lv_iload_n hx hb d_M_alter_179 rfl (lv_at hl 3 rfl) ?_
        refine lv_iconst (v := J (4)) hx hb d_M_alter_180 rfl ?_
        refine y_icmp_ne (tgt := 188) hx hb d_M_alter_181 (by decide) ⟨by omega, by omega⟩ ⟨by omega, by omega⟩ (fun hc67 => absurd hc67 (by decide)) (fun hc67 => ?_)
        refine lv_iload_n hx hb d_M_alter_184 rfl (lv_at hl 4 rfl) ?_
        refine lv_goto (tgt := 194) hx hb d_M_alter_185 (by decide) ?_
        refine y_iast hx hb hK.1 hW 18 (by omega) laym_18 rfl (by decide) hS hAr 0 (by omega) (by omega) d_M_alter_194 (fun H locs hW hS => ?_)
        refine lv_aload_n hx hb d_M_alter_195 rfl (lv_at hl 2 rfl) ?_
        refine lv_iload_n hx hb d_M_alter_196 rfl (lv_at hl 3 rfl) ?_
        refine lv_iconst (v := J (5)) hx hb d_M_alter_197 rfl ?_
        refine y_icmp_ne (tgt := 205) hx hb d_M_alter_198 (by decide) ⟨by omega, by omega⟩ ⟨by omega, by omega⟩ (fun hc68 => ?_) (fun hc68 => absurd hc68 (by decide))
        refine lv_aload_n hx hb d_M_alter_205 rfl (lv_at hl 2 rfl) ?_
        refine y_geti hx hb hA in_M hown hK.1 hW 0 (by omega) laym_0 rfl 23 (by decide) (hA _ k_fl_M_162) rfl d_M_alter_206 ?_
        rw [y2_cl (show 0 ≠ 18 by omega), y2_cl (show 0 ≠ 16 by omega), y2_cl (show 0 ≠ 6 by omega), y2_cl (show 0 ≠ 10 by omega), y2_cl (show 0 ≠ 9 by omega)]
        refine y_puti hx hb hA in_M hown hK.1 hW 0 (by omega) laym_0 rfl 23 (by decide) t_M tk_M nm_M hS hAr (hA _ k_fl_M_162) rfl (by decide +kernel) rfl d_M_alter_209 (fun H locs hW hS => ?_)
        refine lv_iconst (v := J (1)) hx hb d_M_alter_212 rfl ?_
        exact y_retgz hx hb hr hlocks hS hW (Or.inr rfl) ⟨fun h => absurd h (by first | decide | exact hw0), fun h => absurd h (by first | decide | exact hw1), fun h => absurd h (by first | decide | exact hw2), fun h => absurd h (by first | decide | exact hw3), fun _ => ⟨fun _ => ⟨rfl, ((y2_id rfl).trans (congrArg (fun q => y2 q 18 0 x9) ((y2_id rfl).trans ((y2_id rfl).trans ((y2_id rfl).trans ((y2_id rfl).trans rfl))))))⟩, fun h => absurd (by omega) h⟩, fun h => absurd h (by first | decide | exact hw5), fun h => absurd h (by decide)⟩ d_M_alter_213
      · skip
        rw [show (if 0 ≤ x9 ∧ x9 ≤ 999 then (1 : Int) else 0) = 0 from if_neg hq83]
        refine y_if_ne (tgt := 91) hx hb d_M_alter_86 (by decide) ⟨by omega, by omega⟩ (fun hc69 => absurd hc69 (by decide)) (fun hc69 => ?_)
        refine lv_iconst (v := J (0)) hx hb d_M_alter_89 rfl ?_
        exact y_retgz hx hb hr hlocks hS hW (Or.inl rfl) ⟨fun h => absurd h (by first | decide | exact hw0), fun h => absurd h (by first | decide | exact hw1), fun h => absurd h (by first | decide | exact hw2), fun h => absurd h (by first | decide | exact hw3), fun _ => ⟨fun h => absurd h (by omega), fun _ => ⟨rfl, rfl⟩⟩, fun h => absurd h (by first | decide | exact hw5), fun h => absurd h (by decide)⟩ d_M_alter_90
  by_cases hw5 : w9 = 5
  · skip
    subst hw5
    refine lv_iload_n hx hb d_M_alter_0 rfl (lv_at hl 1 rfl) ?_
    refine lv_iconst (v := J (2)) hx hb d_M_alter_1 rfl ?_
    refine y_icmp_eq (tgt := 10) hx hb d_M_alter_2 (by decide) hw9 ⟨by omega, by omega⟩ (fun hc70 => absurd hc70 (by decide)) (fun hc70 => ?_)
    refine lv_iload_n hx hb d_M_alter_5 rfl (lv_at hl 1 rfl) ?_
    refine lv_iconst (v := J (4)) hx hb d_M_alter_6 rfl ?_
    refine y_icmp_ne (tgt := 16) hx hb d_M_alter_7 (by decide) hw9 ⟨by omega, by omega⟩ (fun hc71 => ?_) (fun hc71 => absurd hc71 (by decide))
    refine lv_iload_n hx hb d_M_alter_16 rfl (lv_at hl 1 rfl) ?_
    refine lv_iconst (v := J (5)) hx hb d_M_alter_17 rfl ?_
    refine y_icmp_ne (tgt := 27) hx hb d_M_alter_18 (by decide) hw9 ⟨by omega, by omega⟩ (fun hc72 => absurd hc72 (by decide)) (fun hc72 => ?_)
    refine lv_sipush (v := J (2472)) hx hb d_M_alter_21 (by decide) ?_
    refine lv_goto (tgt := 30) hx hb d_M_alter_24 (by decide) ?_
    refine lv_istore_n (lv' := [(3, .int (J (2472))), (0, .ref (z + 0)), (1, .int (J (5))), (2, .int (J (x9)))]) hx hb d_M_alter_30 rfl hl (by decide) rfl (fun ls hl => ?_)
    refine lv_iload_n hx hb d_M_alter_31 rfl (lv_at hl 2 rfl) ?_
    refine lv_iconst (v := J (5)) hx hb d_M_alter_32 rfl ?_
    refine y_icmp_ne (tgt := 40) hx hb d_M_alter_33 (by decide) hw9 ⟨by omega, by omega⟩ (fun hc73 => absurd hc73 (by decide)) (fun hc73 => ?_)
    refine lv_iconst (v := J (1)) hx hb d_M_alter_36 rfl ?_
    refine lv_goto (tgt := 73) hx hb d_M_alter_37 (by decide) ?_
    refine lv_istore (lv' := [(4, .int (J (1))), (3, .int (J (2472))), (0, .ref (z + 0)), (1, .int (J (5))), (2, .int (J (x9)))]) hx hb d_M_alter_73 hl (by decide) rfl (fun ls hl => ?_)
    refine lv_iload hx hb d_M_alter_75 (lv_at hl 0 rfl) ?_
    refine y_if_eq (tgt := 89) hx hb d_M_alter_77 (by decide) ⟨by omega, by omega⟩ (fun hc74 => absurd hc74 (by decide)) (fun hc74 => ?_)
    refine lv_iload_n hx hb d_M_alter_80 rfl (lv_at hl 4 rfl) ?_
    refine lv_iconst (v := J (0)) hx hb d_M_alter_81 rfl ?_
    refine lv_iload_n hx hb d_M_alter_82 rfl (lv_at hl 1 rfl) ?_
    refine y_ci (y_runS (As := [.int (J (x9)), .int (J (0)), .int (J (2472))]) (rest := []) ⟨hx, hb, hml, hown, hts⟩ (c_M_in l G (x9) (0) (2472) hx9 ⟨by omega, by omega⟩ ⟨by omega, by omega⟩) 3 k_co_M_in k_ml_M_110 k_st_M_in k_in_M rfl rfl (by decide +kernel) ⟨Nat.le_of_ble_eq_true rfl, Nat.le_of_ble_eq_true rfl⟩ (yPs0 (yK_bl G) (yK_mv G) hK) rfl hl.1 rfl (Nat.le_of_ble_eq_true rfl) d_M_alter_83 ⟨Nat.zero_le _, Nat.zero_le _⟩) hS hW (fun H locs hW hS => ?_)
    by_cases hq83 : 0 ≤ x9 ∧ x9 ≤ 2472
    · skip
      rw [show (if 0 ≤ x9 ∧ x9 ≤ 2472 then (1 : Int) else 0) = 1 from if_pos hq83]
      refine y_if_ne (tgt := 91) hx hb d_M_alter_86 (by decide) ⟨by omega, by omega⟩ (fun hc75 => ?_) (fun hc75 => absurd hc75 (by decide))
      refine lv_aload_n hx hb d_M_alter_91 rfl (lv_at hl 2 rfl) ?_
      refine y_getr hx hb hA in_M hown hK.1 hW 0 (by omega) laym_0 rfl 10 (by decide) (hA _ k_fl_M_34) rfl d_M_alter_92 ?_
      refine lv_iconst (v := J (0)) hx hb d_M_alter_95 rfl ?_
      refine lv_iload_n hx hb d_M_alter_96 rfl (lv_at hl 3 rfl) ?_
      refine y_if_ne (tgt := 104) hx hb d_M_alter_97 (by decide) ⟨by omega, by omega⟩ (fun hc76 => ?_) (fun hc76 => absurd hc76 (by decide))
      refine lv_aload_n hx hb d_M_alter_104 rfl (lv_at hl 2 rfl) ?_
      refine y_getr hx hb hA in_M hown hK.1 hW 0 (by omega) laym_0 rfl 10 (by decide) (hA _ k_fl_M_34) rfl d_M_alter_105 ?_
      refine lv_iconst (v := J (0)) hx hb d_M_alter_108 rfl ?_
      refine y_iald hx hb hK.1 hW 9 (by omega) laym_9 rfl (by decide) 0 (by omega) (by omega) d_M_alter_109 ?_
      refine y_iast hx hb hK.1 hW 9 (by omega) laym_9 rfl (by decide) hS hAr 0 (by omega) (by omega) d_M_alter_110 (fun H locs hW hS => ?_)
      refine lv_aload_n hx hb d_M_alter_111 rfl (lv_at hl 2 rfl) ?_
      refine y_getr hx hb hA in_M hown hK.1 hW 0 (by omega) laym_0 rfl 11 (by decide) (hA _ k_fl_M_37) rfl d_M_alter_112 ?_
      refine lv_iconst (v := J (0)) hx hb d_M_alter_115 rfl ?_
      refine lv_iload_n hx hb d_M_alter_116 rfl (lv_at hl 3 rfl) ?_
      refine lv_iconst (v := J (1)) hx hb d_M_alter_117 rfl ?_
      refine y_icmp_ne (tgt := 125) hx hb d_M_alter_118 (by decide) ⟨by omega, by omega⟩ ⟨by omega, by omega⟩ (fun hc77 => ?_) (fun hc77 => absurd hc77 (by decide))
      refine lv_aload_n hx hb d_M_alter_125 rfl (lv_at hl 2 rfl) ?_
      refine y_getr hx hb hA in_M hown hK.1 hW 0 (by omega) laym_0 rfl 11 (by decide) (hA _ k_fl_M_37) rfl d_M_alter_126 ?_
      refine lv_iconst (v := J (0)) hx hb d_M_alter_129 rfl ?_
      refine y_iald hx hb hK.1 hW 10 (by omega) laym_10 rfl (by decide) 0 (by omega) (by omega) d_M_alter_130 ?_
      rw [y2_cl (show 10 ≠ 9 by omega)]
      refine y_iast hx hb hK.1 hW 10 (by omega) laym_10 rfl (by decide) hS hAr 0 (by omega) (by omega) d_M_alter_131 (fun H locs hW hS => ?_)
      refine lv_aload_n hx hb d_M_alter_132 rfl (lv_at hl 2 rfl) ?_
      refine y_getr hx hb hA in_M hown hK.1 hW 0 (by omega) laym_0 rfl 7 (by decide) (hA _ k_fl_M_25) rfl d_M_alter_133 ?_
      refine lv_iconst (v := J (0)) hx hb d_M_alter_136 rfl ?_
      refine lv_iload_n hx hb d_M_alter_137 rfl (lv_at hl 3 rfl) ?_
      refine lv_iconst (v := J (2)) hx hb d_M_alter_138 rfl ?_
      refine y_icmp_ne (tgt := 146) hx hb d_M_alter_139 (by decide) ⟨by omega, by omega⟩ ⟨by omega, by omega⟩ (fun hc78 => ?_) (fun hc78 => absurd hc78 (by decide))
      refine lv_aload_n hx hb d_M_alter_146 rfl (lv_at hl 2 rfl) ?_
      refine y_getr hx hb hA in_M hown hK.1 hW 0 (by omega) laym_0 rfl 7 (by decide) (hA _ k_fl_M_25) rfl d_M_alter_147 ?_
      refine lv_iconst (v := J (0)) hx hb d_M_alter_150 rfl ?_
      refine y_iald hx hb hK.1 hW 6 (by omega) laym_6 rfl (by decide) 0 (by omega) (by omega) d_M_alter_151 ?_
      rw [y2_cl (show 6 ≠ 10 by omega), y2_cl (show 6 ≠ 9 by omega)]
      refine y_iast hx hb hK.1 hW 6 (by omega) laym_6 rfl (by decide) hS hAr 0 (by omega) (by omega) d_M_alter_152 (fun H locs hW hS => ?_)
      refine lv_aload_n hx hb d_M_alter_153 rfl (lv_at hl 2 rfl) ?_
      refine y_getr hx hb hA in_M hown hK.1 hW 0 (by omega) laym_0 rfl 18 (by decide) (hA _ k_fl_M_55) rfl d_M_alter_154 ?_
      refine lv_iconst (v := J (0)) hx hb d_M_alter_157 rfl ?_
      refine lv_iload_n hx hb d_M_alter_158 rfl (lv_at hl 3 rfl) ?_
      refine lv_iconst (v := J (3)) hx hb d_M_alter_159 rfl ?_
      refine y_icmp_ne (tgt := 167) hx hb d_M_alter_160 (by decide) ⟨by omega, by omega⟩ ⟨by omega, by omega⟩ (fun hc79 => ?_) (fun hc79 => absurd hc79 (by decide))
      refine lv_aload_n hx hb d_M_alter_167 rfl (lv_at hl 2 rfl) ?_
      refine y_getr hx hb hA in_M hown hK.1 hW 0 (by omega) laym_0 rfl 18 (by decide) (hA _ k_fl_M_55) rfl d_M_alter_168 ?_
      refine lv_iconst (v := J (0)) hx hb d_M_alter_171 rfl ?_
      refine y_iald hx hb hK.1 hW 16 (by omega) laym_16 rfl (by decide) 0 (by omega) (by omega) d_M_alter_172 ?_
      rw [y2_cl (show 16 ≠ 6 by omega), y2_cl (show 16 ≠ 10 by omega), y2_cl (show 16 ≠ 9 by omega)]
      refine y_iast hx hb hK.1 hW 16 (by omega) laym_16 rfl (by decide) hS hAr 0 (by omega) (by omega) d_M_alter_173 (fun H locs hW hS => ?_)
      refine lv_aload_n hx hb d_M_alter_174 rfl (lv_at hl 2 rfl) ?_
      refine y_getr hx hb hA in_M hown hK.1 hW 0 (by omega) laym_0 rfl 20 (by decide) (hA _ k_fl_M_61) rfl d_M_alter_175 ?_
      refine lv_iconst (v := J (0)) hx hb d_M_alter_178 rfl ?_
      refine lv_iload_n hx hb d_M_alter_179 rfl (lv_at hl 3 rfl) ?_
      refine lv_iconst (v := J (4)) hx hb d_M_alter_180 rfl ?_
      refine y_icmp_ne (tgt := 188) hx hb d_M_alter_181 (by decide) ⟨by omega, by omega⟩ ⟨by omega, by omega⟩ (fun hc80 => ?_) (fun hc80 => absurd hc80 (by decide))
      refine lv_aload_n hx hb d_M_alter_188 rfl (lv_at hl 2 rfl) ?_
      refine y_getr hx hb hA in_M hown hK.1 hW 0 (by omega) laym_0 rfl 20 (by decide) (hA _ k_fl_M_61) rfl d_M_alter_189 ?_
      refine lv_iconst (v := J (0)) hx hb d_M_alter_192 rfl ?_
      refine y_iald hx hb hK.1 hW 18 (by omega) laym_18 rfl (by decide) 0 (by omega) (by omega) d_M_alter_193 ?_
      rw [y2_cl (show 18 ≠ 16 by omega), y2_cl (show 18 ≠ 6 by omega), y2_cl (show 18 ≠ 10 by omega), y2_cl (show 18 ≠ 9 by omega)]
      refine y_iast hx hb hK.1 hW 18 (by omega) laym_18 rfl (by decide) hS hAr 0 (by omega) (by omega) d_M_alter_194 (fun H locs hW hS => ?_)
      refine lv_aload_n hx hb d_M_alter_195 rfl (lv_at hl 2 rfl) ?_
      refine lv_iload_n hx hb d_M_alter_196 rfl (lv_at hl 3 rfl) ?_
      refine lv_iconst (v := J (5)) hx hb d_M_alter_197 rfl ?_
      refine y_icmp_ne (tgt := 205) hx hb d_M_alter_198 (by decide) ⟨by omega, by omega⟩ ⟨by omega, by omega⟩ (fun hc81 => absurd hc81 (by decide)) (fun hc81 => ?_)
      refine lv_iload_n hx hb d_M_alter_201 rfl (lv_at hl 4 rfl) ?_
      refine lv_goto (tgt := 209) hx hb d_M_alter_202 (by decide) ?_
      refine y_puti hx hb hA in_M hown hK.1 hW 0 (by omega) laym_0 rfl 23 (by decide) t_M tk_M nm_M hS hAr (hA _ k_fl_M_162) rfl (by decide +kernel) rfl d_M_alter_209 (fun H locs hW hS => ?_)
      refine lv_iconst (v := J (1)) hx hb d_M_alter_212 rfl ?_
      exact y_retgz hx hb hr hlocks hS hW (Or.inr rfl) ⟨fun h => absurd h (by first | decide | exact hw0), fun h => absurd h (by first | decide | exact hw1), fun h => absurd h (by first | decide | exact hw2), fun h => absurd h (by first | decide | exact hw3), fun h => absurd h (by first | decide | exact hw4), fun _ => ⟨fun _ => ⟨rfl, (congrArg (fun q => y2 q 0 23 x9) ((y2_id rfl).trans ((y2_id rfl).trans ((y2_id rfl).trans ((y2_id rfl).trans ((y2_id rfl).trans rfl))))))⟩, fun h => absurd (by omega) h⟩, fun h => absurd h (by decide)⟩ d_M_alter_213
    · skip
      rw [show (if 0 ≤ x9 ∧ x9 ≤ 2472 then (1 : Int) else 0) = 0 from if_neg hq83]
      refine y_if_ne (tgt := 91) hx hb d_M_alter_86 (by decide) ⟨by omega, by omega⟩ (fun hc82 => absurd hc82 (by decide)) (fun hc82 => ?_)
      refine lv_iconst (v := J (0)) hx hb d_M_alter_89 rfl ?_
      exact y_retgz hx hb hr hlocks hS hW (Or.inl rfl) ⟨fun h => absurd h (by first | decide | exact hw0), fun h => absurd h (by first | decide | exact hw1), fun h => absurd h (by first | decide | exact hw2), fun h => absurd h (by first | decide | exact hw3), fun h => absurd h (by first | decide | exact hw4), fun _ => ⟨fun h => absurd h (by omega), fun _ => ⟨rfl, rfl⟩⟩, fun h => absurd h (by decide)⟩ d_M_alter_90
  refine lv_iload_n hx hb d_M_alter_0 rfl (lv_at hl 1 rfl) ?_
  refine lv_iconst (v := J (2)) hx hb d_M_alter_1 rfl ?_
  refine y_icmp_eq (tgt := 10) hx hb d_M_alter_2 (by decide) hw9 ⟨by omega, by omega⟩ (fun hc83 => absurd hc83 (by omega)) (fun hc83 => ?_)
  refine lv_iload_n hx hb d_M_alter_5 rfl (lv_at hl 1 rfl) ?_
  refine lv_iconst (v := J (4)) hx hb d_M_alter_6 rfl ?_
  refine y_icmp_ne (tgt := 16) hx hb d_M_alter_7 (by decide) hw9 ⟨by omega, by omega⟩ (fun hc84 => ?_) (fun hc84 => absurd hc84 (by omega))
  refine lv_iload_n hx hb d_M_alter_16 rfl (lv_at hl 1 rfl) ?_
  refine lv_iconst (v := J (5)) hx hb d_M_alter_17 rfl ?_
  refine y_icmp_ne (tgt := 27) hx hb d_M_alter_18 (by decide) hw9 ⟨by omega, by omega⟩ (fun hc85 => ?_) (fun hc85 => absurd hc85 (by omega))
  refine lv_sipush (v := J (10008)) hx hb d_M_alter_27 (by decide) ?_
  refine lv_istore_n (lv' := [(3, .int (J (10008))), (0, .ref (z + 0)), (1, .int (J (w9))), (2, .int (J (x9)))]) hx hb d_M_alter_30 rfl hl (by decide) rfl (fun ls hl => ?_)
  refine lv_iload_n hx hb d_M_alter_31 rfl (lv_at hl 2 rfl) ?_
  refine lv_iconst (v := J (5)) hx hb d_M_alter_32 rfl ?_
  refine y_icmp_ne (tgt := 40) hx hb d_M_alter_33 (by decide) hw9 ⟨by omega, by omega⟩ (fun hc86 => ?_) (fun hc86 => absurd hc86 (by omega))
  refine lv_iload_n hx hb d_M_alter_40 rfl (lv_at hl 2 rfl) ?_
  refine lv_iconst (v := J (0)) hx hb d_M_alter_41 rfl ?_
  refine lv_iconst (v := J (2)) hx hb d_M_alter_42 rfl ?_
  refine y_ci (y_runS (As := [.int (J (w9)), .int (J (0)), .int (J (2))]) (rest := []) ⟨hx, hb, hml, hown, hts⟩ (c_M_in l G (w9) (0) (2) hw9 ⟨by omega, by omega⟩ ⟨by omega, by omega⟩) 3 k_co_M_in k_ml_M_110 k_st_M_in k_in_M rfl rfl (by decide +kernel) ⟨Nat.le_of_ble_eq_true rfl, Nat.le_of_ble_eq_true rfl⟩ (yPs0 (yK_bl G) (yK_mv G) hK) rfl hl.1 rfl (Nat.le_of_ble_eq_true rfl) d_M_alter_43 ⟨Nat.zero_le _, Nat.zero_le _⟩) hS hW (fun H locs hW hS => ?_)
  rw [if_neg (by omega)]
  refine y_if_eq (tgt := 56) hx hb d_M_alter_46 (by decide) ⟨by omega, by omega⟩ (fun hc87 => ?_) (fun hc87 => absurd hc87 (by decide))
  refine lv_iload_n hx hb d_M_alter_56 rfl (lv_at hl 2 rfl) ?_
  refine lv_iconst (v := J (3)) hx hb d_M_alter_57 rfl ?_
  refine lv_iconst (v := J (4)) hx hb d_M_alter_58 rfl ?_
  refine y_ci (y_runS (As := [.int (J (w9)), .int (J (3)), .int (J (4))]) (rest := []) ⟨hx, hb, hml, hown, hts⟩ (c_M_in l G (w9) (3) (4) hw9 ⟨by omega, by omega⟩ ⟨by omega, by omega⟩) 3 k_co_M_in k_ml_M_110 k_st_M_in k_in_M rfl rfl (by decide +kernel) ⟨Nat.le_of_ble_eq_true rfl, Nat.le_of_ble_eq_true rfl⟩ (yPs0 (yK_bl G) (yK_mv G) hK) rfl hl.1 rfl (Nat.le_of_ble_eq_true rfl) d_M_alter_59 ⟨Nat.zero_le _, Nat.zero_le _⟩) hS hW (fun H locs hW hS => ?_)
  rw [if_neg (by omega)]
  refine y_if_eq (tgt := 72) hx hb d_M_alter_62 (by decide) ⟨by omega, by omega⟩ (fun hc88 => ?_) (fun hc88 => absurd hc88 (by decide))
  refine lv_iconst (v := J (0)) hx hb d_M_alter_72 rfl ?_
  refine lv_istore (lv' := [(4, .int (J (0))), (3, .int (J (10008))), (0, .ref (z + 0)), (1, .int (J (w9))), (2, .int (J (x9)))]) hx hb d_M_alter_73 hl (by decide) rfl (fun ls hl => ?_)
  refine lv_iload hx hb d_M_alter_75 (lv_at hl 0 rfl) ?_
  refine y_if_eq (tgt := 89) hx hb d_M_alter_77 (by decide) ⟨by omega, by omega⟩ (fun hc89 => ?_) (fun hc89 => absurd hc89 (by decide))
  refine lv_iconst (v := J (0)) hx hb d_M_alter_89 rfl ?_
  exact y_retgz hx hb hr hlocks hS hW (Or.inl rfl) ⟨fun h => absurd h (by first | decide | exact hw0), fun h => absurd h (by first | decide | exact hw1), fun h => absurd h (by first | decide | exact hw2), fun h => absurd h (by first | decide | exact hw3), fun h => absurd h (by first | decide | exact hw4), fun h => absurd h (by first | decide | exact hw5), fun _ => ⟨rfl, rfl⟩⟩ d_M_alter_90
