def ins1 (f g : Nat → Int) (fl o : Nat) : Nat → Int := fun i => if fl ≤ i ∧ i < fl + o then f (i - fl) else g i
theorem ins1_0 {f g : Nat → Int} {fl : Nat} : ins1 f g fl 0 = g := by
  funext i
  unfold ins1
  rw [if_neg (by omega)]
theorem ins1_s {f g : Nat → Int} {fl o : Nat} : ins1 f g fl (o + 1) = fun i => if i = fl + o then f o else ins1 f g fl o i := by
  funext i
  unfold ins1
  by_cases e : i = fl + o
  · subst e; rw [if_pos (by omega), if_pos rfl, show fl + o - fl = o by omega]
  · rw [if_neg e]
    by_cases h : fl ≤ i ∧ i < fl + o
    · rw [if_pos (by omega), if_pos h]
    · rw [if_neg (by omega), if_neg h]
def cpM (τ : yM) (fl o : Nat) (r : Nat → Int) : yM := fun d => if d = 23 then ins1 (τ 16) (τ 23) fl o else if d = 24 then ins1 (τ 17) (τ 24) fl o else if d = 25 then ins1 (τ 18) (τ 25) fl o else if d = 26 then ins1 (τ 19) (τ 26) fl o else if d = 27 then r else τ d
theorem cp_o {τ : yM} {fl o : Nat} {r : Nat → Int} {d : Nat} (h : d < 23) : cpM τ fl o r d = τ d := by
  unfold cpM
  rw [if_neg (by omega), if_neg (by omega), if_neg (by omega), if_neg (by omega), if_neg (by omega)]
theorem cp_0 {τ : yM} {fl : Nat} {r : Nat → Int} : yr τ r = cpM τ fl 0 r := by
  funext d
  unfold cpM yr
  rw [ins1_0, ins1_0, ins1_0, ins1_0]
  by_cases h3 : d = 23
  · subst h3; rfl
  · by_cases h4 : d = 24
    · subst h4; rfl
    · by_cases h5 : d = 25
      · subst h5; rfl
      · by_cases h6 : d = 26
        · subst h6; rfl
        · rw [if_neg h3, if_neg h4, if_neg h5, if_neg h6]
theorem cp_s {τ : yM} {fl o : Nat} {r : Nat → Int} : y2 (y2 (y2 (y2 (cpM τ fl o r) 23 (fl + o) (τ 16 o)) 24 (fl + o) (τ 17 o)) 25 (fl + o) (τ 18 o)) 26 (fl + o) (τ 19 o) = cpM τ fl (o + 1) r := by
  funext d
  by_cases h3 : d = 23
  · subst h3; rw [y2_ne (by decide), y2_ne (by decide), y2_ne (by decide), y2_cc]; exact ins1_s.symm
  · by_cases h4 : d = 24
    · subst h4; rw [y2_ne (by decide), y2_ne (by decide), y2_cc, y2_ne (by decide)]; exact ins1_s.symm
    · by_cases h5 : d = 25
      · subst h5; rw [y2_ne (by decide), y2_cc, y2_ne (by decide), y2_ne (by decide)]; exact ins1_s.symm
      · by_cases h6 : d = 26
        · subst h6; rw [y2_cc, y2_ne (by decide), y2_ne (by decide), y2_ne (by decide)]; exact ins1_s.symm
        · rw [y2_ne h6, y2_ne h5, y2_ne h4, y2_ne h3]
          unfold cpM
          rw [if_neg h3, if_neg h4, if_neg h5, if_neg h6, if_neg h3, if_neg h4, if_neg h5, if_neg h6]
/-- what the reference's connect leaves -/
def coM (τ : yM) (ns no nb fl : Nat) (r : Nat → Int) : yM := y2 (y2 (y2 (y2 (y2 (y2 (y2 (y2 (y2 (cpM τ fl no r) 20 nb ((fl : Int) + (no : Int))) 21 nb (τ 0 22)) 22 (2 * nb) (if 0 < ns then τ 10 0 else -1)) 22 (2 * nb + 1) (if 1 < ns then τ 10 1 else -1)) 0 24 ((nb : Int) + 1)) 0 4 0) 0 13 0) 0 22 0) 0 23 0
theorem d_M_connect_0 : decode b_M_connect 0 = .ok (.aload_n 0, 1) := by decide +kernel
theorem d_M_connect_1 : decode b_M_connect 1 = .ok (.invokevirtual 189, 3) := by decide +kernel
theorem d_M_connect_4 : decode b_M_connect 4 = .ok (.istore_n 1, 1) := by decide +kernel
theorem d_M_connect_5 : decode b_M_connect 5 = .ok (.iload_n 1, 1) := by decide +kernel
theorem d_M_connect_6 : decode b_M_connect 6 = .ok (.ifCond .eq 5, 3) := by decide +kernel
theorem d_M_connect_9 : decode b_M_connect 9 = .ok (.iload_n 1, 1) := by decide +kernel
theorem d_M_connect_10 : decode b_M_connect 10 = .ok (.ireturn, 1) := by decide +kernel
theorem d_M_connect_11 : decode b_M_connect 11 = .ok (.aload_n 0, 1) := by decide +kernel
theorem d_M_connect_12 : decode b_M_connect 12 = .ok (.invokevirtual 114, 3) := by decide +kernel
theorem d_M_connect_15 : decode b_M_connect 15 = .ok (.istore_n 2, 1) := by decide +kernel
theorem d_M_connect_16 : decode b_M_connect 16 = .ok (.iconst 0, 1) := by decide +kernel
theorem d_M_connect_17 : decode b_M_connect 17 = .ok (.istore_n 3, 1) := by decide +kernel
theorem d_M_connect_18 : decode b_M_connect 18 = .ok (.iload_n 3, 1) := by decide +kernel
theorem d_M_connect_19 : decode b_M_connect 19 = .ok (.aload_n 0, 1) := by decide +kernel
theorem d_M_connect_20 : decode b_M_connect 20 = .ok (.getfield 156, 3) := by decide +kernel
theorem d_M_connect_23 : decode b_M_connect 23 = .ok (.if_icmp .ge 65, 3) := by decide +kernel
theorem d_M_connect_26 : decode b_M_connect 26 = .ok (.aload_n 0, 1) := by decide +kernel
theorem d_M_connect_27 : decode b_M_connect 27 = .ok (.getfield 76, 3) := by decide +kernel
theorem d_M_connect_30 : decode b_M_connect 30 = .ok (.iload_n 2, 1) := by decide +kernel
theorem d_M_connect_31 : decode b_M_connect 31 = .ok (.iload_n 3, 1) := by decide +kernel
theorem d_M_connect_32 : decode b_M_connect 32 = .ok (.iadd, 1) := by decide +kernel
theorem d_M_connect_33 : decode b_M_connect 33 = .ok (.aload_n 0, 1) := by decide +kernel
theorem d_M_connect_34 : decode b_M_connect 34 = .ok (.getfield 55, 3) := by decide +kernel
theorem d_M_connect_37 : decode b_M_connect 37 = .ok (.iload_n 3, 1) := by decide +kernel
theorem d_M_connect_38 : decode b_M_connect 38 = .ok (.iaload, 1) := by decide +kernel
theorem d_M_connect_39 : decode b_M_connect 39 = .ok (.iastore, 1) := by decide +kernel
theorem d_M_connect_40 : decode b_M_connect 40 = .ok (.aload_n 0, 1) := by decide +kernel
theorem d_M_connect_41 : decode b_M_connect 41 = .ok (.getfield 79, 3) := by decide +kernel
theorem d_M_connect_44 : decode b_M_connect 44 = .ok (.iload_n 2, 1) := by decide +kernel
theorem d_M_connect_45 : decode b_M_connect 45 = .ok (.iload_n 3, 1) := by decide +kernel
theorem d_M_connect_46 : decode b_M_connect 46 = .ok (.iadd, 1) := by decide +kernel
theorem d_M_connect_47 : decode b_M_connect 47 = .ok (.aload_n 0, 1) := by decide +kernel
theorem d_M_connect_48 : decode b_M_connect 48 = .ok (.getfield 58, 3) := by decide +kernel
theorem d_M_connect_51 : decode b_M_connect 51 = .ok (.iload_n 3, 1) := by decide +kernel
theorem d_M_connect_52 : decode b_M_connect 52 = .ok (.iaload, 1) := by decide +kernel
theorem d_M_connect_53 : decode b_M_connect 53 = .ok (.iastore, 1) := by decide +kernel
theorem d_M_connect_54 : decode b_M_connect 54 = .ok (.aload_n 0, 1) := by decide +kernel
theorem d_M_connect_55 : decode b_M_connect 55 = .ok (.getfield 82, 3) := by decide +kernel
theorem d_M_connect_58 : decode b_M_connect 58 = .ok (.iload_n 2, 1) := by decide +kernel
theorem d_M_connect_59 : decode b_M_connect 59 = .ok (.iload_n 3, 1) := by decide +kernel
theorem d_M_connect_60 : decode b_M_connect 60 = .ok (.iadd, 1) := by decide +kernel
theorem d_M_connect_61 : decode b_M_connect 61 = .ok (.aload_n 0, 1) := by decide +kernel
theorem d_M_connect_62 : decode b_M_connect 62 = .ok (.getfield 61, 3) := by decide +kernel
theorem d_M_connect_65 : decode b_M_connect 65 = .ok (.iload_n 3, 1) := by decide +kernel
theorem d_M_connect_66 : decode b_M_connect 66 = .ok (.iaload, 1) := by decide +kernel
theorem d_M_connect_67 : decode b_M_connect 67 = .ok (.iastore, 1) := by decide +kernel
theorem d_M_connect_68 : decode b_M_connect 68 = .ok (.aload_n 0, 1) := by decide +kernel
theorem d_M_connect_69 : decode b_M_connect 69 = .ok (.getfield 85, 3) := by decide +kernel
theorem d_M_connect_72 : decode b_M_connect 72 = .ok (.iload_n 2, 1) := by decide +kernel
theorem d_M_connect_73 : decode b_M_connect 73 = .ok (.iload_n 3, 1) := by decide +kernel
theorem d_M_connect_74 : decode b_M_connect 74 = .ok (.iadd, 1) := by decide +kernel
theorem d_M_connect_75 : decode b_M_connect 75 = .ok (.aload_n 0, 1) := by decide +kernel
theorem d_M_connect_76 : decode b_M_connect 76 = .ok (.getfield 64, 3) := by decide +kernel
theorem d_M_connect_79 : decode b_M_connect 79 = .ok (.iload_n 3, 1) := by decide +kernel
theorem d_M_connect_80 : decode b_M_connect 80 = .ok (.iaload, 1) := by decide +kernel
theorem d_M_connect_81 : decode b_M_connect 81 = .ok (.iastore, 1) := by decide +kernel
theorem d_M_connect_82 : decode b_M_connect 82 = .ok (.iinc 3 1, 3) := by decide +kernel
theorem d_M_connect_85 : decode b_M_connect 85 = .ok (.goto (-67), 3) := by decide +kernel
theorem d_M_connect_88 : decode b_M_connect 88 = .ok (.aload_n 0, 1) := by decide +kernel
theorem d_M_connect_89 : decode b_M_connect 89 = .ok (.getfield 67, 3) := by decide +kernel
theorem d_M_connect_92 : decode b_M_connect 92 = .ok (.aload_n 0, 1) := by decide +kernel
theorem d_M_connect_93 : decode b_M_connect 93 = .ok (.getfield 106, 3) := by decide +kernel
theorem d_M_connect_96 : decode b_M_connect 96 = .ok (.iload_n 2, 1) := by decide +kernel
theorem d_M_connect_97 : decode b_M_connect 97 = .ok (.aload_n 0, 1) := by decide +kernel
theorem d_M_connect_98 : decode b_M_connect 98 = .ok (.getfield 156, 3) := by decide +kernel
theorem d_M_connect_101 : decode b_M_connect 101 = .ok (.iadd, 1) := by decide +kernel
theorem d_M_connect_102 : decode b_M_connect 102 = .ok (.iastore, 1) := by decide +kernel
theorem d_M_connect_103 : decode b_M_connect 103 = .ok (.aload_n 0, 1) := by decide +kernel
theorem d_M_connect_104 : decode b_M_connect 104 = .ok (.getfield 70, 3) := by decide +kernel
theorem d_M_connect_107 : decode b_M_connect 107 = .ok (.aload_n 0, 1) := by decide +kernel
theorem d_M_connect_108 : decode b_M_connect 108 = .ok (.getfield 106, 3) := by decide +kernel
theorem d_M_connect_111 : decode b_M_connect 111 = .ok (.aload_n 0, 1) := by decide +kernel
theorem d_M_connect_112 : decode b_M_connect 112 = .ok (.getfield 159, 3) := by decide +kernel
theorem d_M_connect_115 : decode b_M_connect 115 = .ok (.iastore, 1) := by decide +kernel
theorem d_M_connect_116 : decode b_M_connect 116 = .ok (.aload_n 0, 1) := by decide +kernel
theorem d_M_connect_117 : decode b_M_connect 117 = .ok (.getfield 73, 3) := by decide +kernel
theorem d_M_connect_120 : decode b_M_connect 120 = .ok (.iconst 2, 1) := by decide +kernel
theorem d_M_connect_121 : decode b_M_connect 121 = .ok (.aload_n 0, 1) := by decide +kernel
theorem d_M_connect_122 : decode b_M_connect 122 = .ok (.getfield 106, 3) := by decide +kernel
theorem d_M_connect_125 : decode b_M_connect 125 = .ok (.imul, 1) := by decide +kernel
theorem d_M_connect_126 : decode b_M_connect 126 = .ok (.aload_n 0, 1) := by decide +kernel
theorem d_M_connect_127 : decode b_M_connect 127 = .ok (.getfield 153, 3) := by decide +kernel
theorem d_M_connect_130 : decode b_M_connect 130 = .ok (.ifCond .le 12, 3) := by decide +kernel
theorem d_M_connect_133 : decode b_M_connect 133 = .ok (.aload_n 0, 1) := by decide +kernel
theorem d_M_connect_134 : decode b_M_connect 134 = .ok (.getfield 37, 3) := by decide +kernel
theorem d_M_connect_137 : decode b_M_connect 137 = .ok (.iconst 0, 1) := by decide +kernel
theorem d_M_connect_138 : decode b_M_connect 138 = .ok (.iaload, 1) := by decide +kernel
theorem d_M_connect_139 : decode b_M_connect 139 = .ok (.goto 4, 3) := by decide +kernel
theorem d_M_connect_142 : decode b_M_connect 142 = .ok (.iconst (-1), 1) := by decide +kernel
theorem d_M_connect_143 : decode b_M_connect 143 = .ok (.iastore, 1) := by decide +kernel
theorem d_M_connect_144 : decode b_M_connect 144 = .ok (.aload_n 0, 1) := by decide +kernel
theorem d_M_connect_145 : decode b_M_connect 145 = .ok (.getfield 73, 3) := by decide +kernel
theorem d_M_connect_148 : decode b_M_connect 148 = .ok (.iconst 2, 1) := by decide +kernel
theorem d_M_connect_149 : decode b_M_connect 149 = .ok (.aload_n 0, 1) := by decide +kernel
theorem d_M_connect_150 : decode b_M_connect 150 = .ok (.getfield 106, 3) := by decide +kernel
theorem d_M_connect_153 : decode b_M_connect 153 = .ok (.imul, 1) := by decide +kernel
theorem d_M_connect_154 : decode b_M_connect 154 = .ok (.iconst 1, 1) := by decide +kernel
theorem d_M_connect_155 : decode b_M_connect 155 = .ok (.iadd, 1) := by decide +kernel
theorem d_M_connect_156 : decode b_M_connect 156 = .ok (.aload_n 0, 1) := by decide +kernel
theorem d_M_connect_157 : decode b_M_connect 157 = .ok (.getfield 153, 3) := by decide +kernel
theorem d_M_connect_160 : decode b_M_connect 160 = .ok (.iconst 1, 1) := by decide +kernel
theorem d_M_connect_161 : decode b_M_connect 161 = .ok (.if_icmp .le 12, 3) := by decide +kernel
theorem d_M_connect_164 : decode b_M_connect 164 = .ok (.aload_n 0, 1) := by decide +kernel
theorem d_M_connect_165 : decode b_M_connect 165 = .ok (.getfield 37, 3) := by decide +kernel
theorem d_M_connect_168 : decode b_M_connect 168 = .ok (.iconst 1, 1) := by decide +kernel
theorem d_M_connect_169 : decode b_M_connect 169 = .ok (.iaload, 1) := by decide +kernel
theorem d_M_connect_170 : decode b_M_connect 170 = .ok (.goto 4, 3) := by decide +kernel
theorem d_M_connect_173 : decode b_M_connect 173 = .ok (.iconst (-1), 1) := by decide +kernel
theorem d_M_connect_174 : decode b_M_connect 174 = .ok (.iastore, 1) := by decide +kernel
theorem d_M_connect_175 : decode b_M_connect 175 = .ok (.aload_n 0, 1) := by decide +kernel
theorem d_M_connect_176 : decode b_M_connect 176 = .ok (.dup, 1) := by decide +kernel
theorem d_M_connect_177 : decode b_M_connect 177 = .ok (.getfield 106, 3) := by decide +kernel
theorem d_M_connect_180 : decode b_M_connect 180 = .ok (.iconst 1, 1) := by decide +kernel
theorem d_M_connect_181 : decode b_M_connect 181 = .ok (.iadd, 1) := by decide +kernel
theorem d_M_connect_182 : decode b_M_connect 182 = .ok (.putfield 106, 3) := by decide +kernel
theorem d_M_connect_185 : decode b_M_connect 185 = .ok (.aload_n 0, 1) := by decide +kernel
theorem d_M_connect_186 : decode b_M_connect 186 = .ok (.invokevirtual 192, 3) := by decide +kernel
theorem d_M_connect_189 : decode b_M_connect 189 = .ok (.aload_n 0, 1) := by decide +kernel
theorem d_M_connect_190 : decode b_M_connect 190 = .ok (.getfield 106, 3) := by decide +kernel
theorem d_M_connect_193 : decode b_M_connect 193 = .ok (.ireturn, 1) := by decide +kernel
theorem d_M_outputPart_0 : decode b_M_outputPart 0 = .ok (.aload_n 0, 1) := by decide +kernel
theorem d_M_outputPart_1 : decode b_M_outputPart 1 = .ok (.getfield 46, 3) := by decide +kernel
theorem d_M_outputPart_4 : decode b_M_outputPart 4 = .ok (.iload_n 1, 1) := by decide +kernel
theorem d_M_outputPart_5 : decode b_M_outputPart 5 = .ok (.iaload, 1) := by decide +kernel
theorem d_M_outputPart_6 : decode b_M_outputPart 6 = .ok (.aload_n 0, 1) := by decide +kernel
theorem d_M_outputPart_7 : decode b_M_outputPart 7 = .ok (.getfield 52, 3) := by decide +kernel
theorem d_M_outputPart_10 : decode b_M_outputPart 10 = .ok (.iload_n 1, 1) := by decide +kernel
theorem d_M_outputPart_11 : decode b_M_outputPart 11 = .ok (.iaload, 1) := by decide +kernel
theorem d_M_outputPart_12 : decode b_M_outputPart 12 = .ok (.invokestatic 171, 3) := by decide +kernel
theorem d_M_outputPart_15 : decode b_M_outputPart 15 = .ok (.istore_n 3, 1) := by decide +kernel
theorem d_M_outputPart_16 : decode b_M_outputPart 16 = .ok (.iload_n 2, 1) := by decide +kernel
theorem d_M_outputPart_17 : decode b_M_outputPart 17 = .ok (.ifCond .ne 12, 3) := by decide +kernel
theorem d_M_outputPart_20 : decode b_M_outputPart 20 = .ok (.aload_n 0, 1) := by decide +kernel
theorem d_M_outputPart_21 : decode b_M_outputPart 21 = .ok (.getfield 55, 3) := by decide +kernel
theorem d_M_outputPart_24 : decode b_M_outputPart 24 = .ok (.iload_n 1, 1) := by decide +kernel
theorem d_M_outputPart_25 : decode b_M_outputPart 25 = .ok (.iaload, 1) := by decide +kernel
theorem d_M_outputPart_26 : decode b_M_outputPart 26 = .ok (.goto 23, 3) := by decide +kernel
theorem d_M_outputPart_29 : decode b_M_outputPart 29 = .ok (.iload_n 2, 1) := by decide +kernel
theorem d_M_outputPart_30 : decode b_M_outputPart 30 = .ok (.iconst 3, 1) := by decide +kernel
theorem d_M_outputPart_31 : decode b_M_outputPart 31 = .ok (.if_icmp .ne 12, 3) := by decide +kernel
theorem d_M_outputPart_34 : decode b_M_outputPart 34 = .ok (.aload_n 0, 1) := by decide +kernel
theorem d_M_outputPart_35 : decode b_M_outputPart 35 = .ok (.getfield 61, 3) := by decide +kernel
theorem d_M_outputPart_38 : decode b_M_outputPart 38 = .ok (.iload_n 1, 1) := by decide +kernel
theorem d_M_outputPart_39 : decode b_M_outputPart 39 = .ok (.iaload, 1) := by decide +kernel
theorem d_M_outputPart_40 : decode b_M_outputPart 40 = .ok (.goto 9, 3) := by decide +kernel
theorem d_M_outputPart_43 : decode b_M_outputPart 43 = .ok (.aload_n 0, 1) := by decide +kernel
theorem d_M_outputPart_44 : decode b_M_outputPart 44 = .ok (.getfield 64, 3) := by decide +kernel
theorem d_M_outputPart_47 : decode b_M_outputPart 47 = .ok (.iload_n 1, 1) := by decide +kernel
theorem d_M_outputPart_48 : decode b_M_outputPart 48 = .ok (.iaload, 1) := by decide +kernel
theorem d_M_outputPart_49 : decode b_M_outputPart 49 = .ok (.istore 4, 2) := by decide +kernel
theorem d_M_outputPart_51 : decode b_M_outputPart 51 = .ok (.iload_n 2, 1) := by decide +kernel
theorem d_M_outputPart_52 : decode b_M_outputPart 52 = .ok (.iconst 1, 1) := by decide +kernel
theorem d_M_outputPart_53 : decode b_M_outputPart 53 = .ok (.if_icmp .ne 17, 3) := by decide +kernel
theorem d_M_outputPart_56 : decode b_M_outputPart 56 = .ok (.aload_n 0, 1) := by decide +kernel
theorem d_M_outputPart_57 : decode b_M_outputPart 57 = .ok (.getfield 7, 3) := by decide +kernel
theorem d_M_outputPart_60 : decode b_M_outputPart 60 = .ok (.aload_n 0, 1) := by decide +kernel
theorem d_M_outputPart_61 : decode b_M_outputPart 61 = .ok (.getfield 58, 3) := by decide +kernel
theorem d_M_outputPart_64 : decode b_M_outputPart 64 = .ok (.iload_n 1, 1) := by decide +kernel
theorem d_M_outputPart_65 : decode b_M_outputPart 65 = .ok (.iaload, 1) := by decide +kernel
theorem d_M_outputPart_66 : decode b_M_outputPart 66 = .ok (.iaload, 1) := by decide +kernel
theorem d_M_outputPart_67 : decode b_M_outputPart 67 = .ok (.goto 53, 3) := by decide +kernel
theorem d_M_outputPart_70 : decode b_M_outputPart 70 = .ok (.iload_n 2, 1) := by decide +kernel
theorem d_M_outputPart_71 : decode b_M_outputPart 71 = .ok (.iconst 2, 1) := by decide +kernel
theorem d_M_outputPart_72 : decode b_M_outputPart 72 = .ok (.if_icmp .ne 17, 3) := by decide +kernel
theorem d_M_outputPart_75 : decode b_M_outputPart 75 = .ok (.aload_n 0, 1) := by decide +kernel
theorem d_M_outputPart_76 : decode b_M_outputPart 76 = .ok (.getfield 13, 3) := by decide +kernel
theorem d_M_outputPart_79 : decode b_M_outputPart 79 = .ok (.aload_n 0, 1) := by decide +kernel
theorem d_M_outputPart_80 : decode b_M_outputPart 80 = .ok (.getfield 58, 3) := by decide +kernel
theorem d_M_outputPart_83 : decode b_M_outputPart 83 = .ok (.iload_n 1, 1) := by decide +kernel
theorem d_M_outputPart_84 : decode b_M_outputPart 84 = .ok (.iaload, 1) := by decide +kernel
theorem d_M_outputPart_85 : decode b_M_outputPart 85 = .ok (.iaload, 1) := by decide +kernel
theorem d_M_outputPart_86 : decode b_M_outputPart 86 = .ok (.goto 34, 3) := by decide +kernel
theorem d_M_outputPart_89 : decode b_M_outputPart 89 = .ok (.iload_n 2, 1) := by decide +kernel
theorem d_M_outputPart_90 : decode b_M_outputPart 90 = .ok (.iconst 5, 1) := by decide +kernel
theorem d_M_outputPart_91 : decode b_M_outputPart 91 = .ok (.if_icmp .ne 12, 3) := by decide +kernel
theorem d_M_outputPart_94 : decode b_M_outputPart 94 = .ok (.aload_n 0, 1) := by decide +kernel
theorem d_M_outputPart_95 : decode b_M_outputPart 95 = .ok (.getfield 7, 3) := by decide +kernel
theorem d_M_outputPart_98 : decode b_M_outputPart 98 = .ok (.iload_n 3, 1) := by decide +kernel
theorem d_M_outputPart_99 : decode b_M_outputPart 99 = .ok (.iaload, 1) := by decide +kernel
theorem d_M_outputPart_100 : decode b_M_outputPart 100 = .ok (.goto 20, 3) := by decide +kernel
theorem d_M_outputPart_103 : decode b_M_outputPart 103 = .ok (.iload_n 2, 1) := by decide +kernel
theorem d_M_outputPart_104 : decode b_M_outputPart 104 = .ok (.bipush 6, 2) := by decide +kernel
theorem d_M_outputPart_106 : decode b_M_outputPart 106 = .ok (.if_icmp .ne 12, 3) := by decide +kernel
theorem d_M_outputPart_109 : decode b_M_outputPart 109 = .ok (.aload_n 0, 1) := by decide +kernel
theorem d_M_outputPart_110 : decode b_M_outputPart 110 = .ok (.getfield 13, 3) := by decide +kernel
theorem d_M_outputPart_113 : decode b_M_outputPart 113 = .ok (.iload_n 3, 1) := by decide +kernel
theorem d_M_outputPart_114 : decode b_M_outputPart 114 = .ok (.iaload, 1) := by decide +kernel
theorem d_M_outputPart_115 : decode b_M_outputPart 115 = .ok (.goto 5, 3) := by decide +kernel
theorem d_M_outputPart_118 : decode b_M_outputPart 118 = .ok (.iload 4, 2) := by decide +kernel
theorem d_M_outputPart_120 : decode b_M_outputPart 120 = .ok (.ireturn, 1) := by decide +kernel
theorem d_M_draft_0 : decode b_M_draft 0 = .ok (.iload_n 1, 1) := by decide +kernel
theorem d_M_draft_1 : decode b_M_draft 1 = .ok (.iconst 0, 1) := by decide +kernel
theorem d_M_draft_2 : decode b_M_draft 2 = .ok (.iconst 3, 1) := by decide +kernel
theorem d_M_draft_3 : decode b_M_draft 3 = .ok (.invokestatic 110, 3) := by decide +kernel
theorem d_M_draft_6 : decode b_M_draft 6 = .ok (.ifCond .eq 43, 3) := by decide +kernel
theorem d_M_draft_9 : decode b_M_draft 9 = .ok (.iload_n 1, 1) := by decide +kernel
theorem d_M_draft_10 : decode b_M_draft 10 = .ok (.ifCond .ne 10, 3) := by decide +kernel
theorem d_M_draft_13 : decode b_M_draft 13 = .ok (.aload_n 0, 1) := by decide +kernel
theorem d_M_draft_14 : decode b_M_draft 14 = .ok (.getfield 153, 3) := by decide +kernel
theorem d_M_draft_17 : decode b_M_draft 17 = .ok (.goto 31, 3) := by decide +kernel
theorem d_M_draft_20 : decode b_M_draft 20 = .ok (.iload_n 1, 1) := by decide +kernel
theorem d_M_draft_21 : decode b_M_draft 21 = .ok (.iconst 1, 1) := by decide +kernel
theorem d_M_draft_22 : decode b_M_draft 22 = .ok (.if_icmp .ne 10, 3) := by decide +kernel
theorem d_M_draft_25 : decode b_M_draft 25 = .ok (.aload_n 0, 1) := by decide +kernel
theorem d_M_draft_26 : decode b_M_draft 26 = .ok (.getfield 156, 3) := by decide +kernel
theorem d_M_draft_29 : decode b_M_draft 29 = .ok (.goto 19, 3) := by decide +kernel
theorem d_M_draft_32 : decode b_M_draft 32 = .ok (.iload_n 1, 1) := by decide +kernel
theorem d_M_draft_33 : decode b_M_draft 33 = .ok (.iconst 2, 1) := by decide +kernel
theorem d_M_draft_34 : decode b_M_draft 34 = .ok (.if_icmp .ne 10, 3) := by decide +kernel
theorem d_M_draft_37 : decode b_M_draft 37 = .ok (.aload_n 0, 1) := by decide +kernel
theorem d_M_draft_38 : decode b_M_draft 38 = .ok (.getfield 159, 3) := by decide +kernel
theorem d_M_draft_41 : decode b_M_draft 41 = .ok (.goto 7, 3) := by decide +kernel
theorem d_M_draft_44 : decode b_M_draft 44 = .ok (.aload_n 0, 1) := by decide +kernel
theorem d_M_draft_45 : decode b_M_draft 45 = .ok (.invokevirtual 183, 3) := by decide +kernel
theorem d_M_draft_48 : decode b_M_draft 48 = .ok (.ireturn, 1) := by decide +kernel
theorem d_M_draft_49 : decode b_M_draft 49 = .ok (.iload_n 1, 1) := by decide +kernel
theorem d_M_draft_50 : decode b_M_draft 50 = .ok (.bipush 8, 2) := by decide +kernel
theorem d_M_draft_52 : decode b_M_draft 52 = .ok (.bipush 21, 2) := by decide +kernel
theorem d_M_draft_54 : decode b_M_draft 54 = .ok (.invokestatic 110, 3) := by decide +kernel
theorem d_M_draft_57 : decode b_M_draft 57 = .ok (.ifCond .eq 42, 3) := by decide +kernel
theorem d_M_draft_60 : decode b_M_draft 60 = .ok (.iload_n 1, 1) := by decide +kernel
theorem d_M_draft_61 : decode b_M_draft 61 = .ok (.bipush 8, 2) := by decide +kernel
theorem d_M_draft_63 : decode b_M_draft 63 = .ok (.isub, 1) := by decide +kernel
theorem d_M_draft_64 : decode b_M_draft 64 = .ok (.bipush 7, 2) := by decide +kernel
theorem d_M_draft_66 : decode b_M_draft 66 = .ok (.idiv, 1) := by decide +kernel
theorem d_M_draft_67 : decode b_M_draft 67 = .ok (.aload_n 0, 1) := by decide +kernel
theorem d_M_draft_68 : decode b_M_draft 68 = .ok (.getfield 156, 3) := by decide +kernel
theorem d_M_draft_71 : decode b_M_draft 71 = .ok (.if_icmp .ge 24, 3) := by decide +kernel
theorem d_M_draft_74 : decode b_M_draft 74 = .ok (.aload_n 0, 1) := by decide +kernel
theorem d_M_draft_75 : decode b_M_draft 75 = .ok (.iload_n 1, 1) := by decide +kernel
theorem d_M_draft_76 : decode b_M_draft 76 = .ok (.bipush 8, 2) := by decide +kernel
theorem d_M_draft_78 : decode b_M_draft 78 = .ok (.isub, 1) := by decide +kernel
theorem d_M_draft_79 : decode b_M_draft 79 = .ok (.bipush 7, 2) := by decide +kernel
theorem d_M_draft_81 : decode b_M_draft 81 = .ok (.idiv, 1) := by decide +kernel
theorem d_M_draft_82 : decode b_M_draft 82 = .ok (.iload_n 1, 1) := by decide +kernel
theorem d_M_draft_83 : decode b_M_draft 83 = .ok (.bipush 8, 2) := by decide +kernel
theorem d_M_draft_85 : decode b_M_draft 85 = .ok (.isub, 1) := by decide +kernel
theorem d_M_draft_86 : decode b_M_draft 86 = .ok (.bipush 7, 2) := by decide +kernel
theorem d_M_draft_88 : decode b_M_draft 88 = .ok (.irem, 1) := by decide +kernel
theorem d_M_draft_89 : decode b_M_draft 89 = .ok (.invokevirtual 195, 3) := by decide +kernel
theorem d_M_draft_92 : decode b_M_draft 92 = .ok (.goto 6, 3) := by decide +kernel
theorem d_M_draft_95 : decode b_M_draft 95 = .ok (.sipush (-10000), 3) := by decide +kernel
theorem d_M_draft_98 : decode b_M_draft 98 = .ok (.ireturn, 1) := by decide +kernel
theorem d_M_draft_99 : decode b_M_draft 99 = .ok (.iload_n 1, 1) := by decide +kernel
theorem d_M_draft_100 : decode b_M_draft 100 = .ok (.iconst 4, 1) := by decide +kernel
theorem d_M_draft_101 : decode b_M_draft 101 = .ok (.bipush 7, 2) := by decide +kernel
theorem d_M_draft_103 : decode b_M_draft 103 = .ok (.invokestatic 110, 3) := by decide +kernel
theorem d_M_draft_106 : decode b_M_draft 106 = .ok (.ifCond .eq 11, 3) := by decide +kernel
theorem d_M_draft_109 : decode b_M_draft 109 = .ok (.iload_n 1, 1) := by decide +kernel
theorem d_M_draft_110 : decode b_M_draft 110 = .ok (.iconst 4, 1) := by decide +kernel
theorem d_M_draft_111 : decode b_M_draft 111 = .ok (.isub, 1) := by decide +kernel
theorem d_M_draft_112 : decode b_M_draft 112 = .ok (.iconst 2, 1) := by decide +kernel
theorem d_M_draft_113 : decode b_M_draft 113 = .ok (.idiv, 1) := by decide +kernel
theorem d_M_draft_114 : decode b_M_draft 114 = .ok (.goto 24, 3) := by decide +kernel
theorem d_M_draft_117 : decode b_M_draft 117 = .ok (.iload_n 1, 1) := by decide +kernel
theorem d_M_draft_118 : decode b_M_draft 118 = .ok (.bipush 22, 2) := by decide +kernel
theorem d_M_draft_120 : decode b_M_draft 120 = .ok (.bipush 25, 2) := by decide +kernel
theorem d_M_draft_122 : decode b_M_draft 122 = .ok (.invokestatic 110, 3) := by decide +kernel
theorem d_M_draft_125 : decode b_M_draft 125 = .ok (.ifCond .eq 12, 3) := by decide +kernel
theorem d_M_draft_128 : decode b_M_draft 128 = .ok (.iload_n 1, 1) := by decide +kernel
theorem d_M_draft_129 : decode b_M_draft 129 = .ok (.bipush 22, 2) := by decide +kernel
theorem d_M_draft_131 : decode b_M_draft 131 = .ok (.isub, 1) := by decide +kernel
theorem d_M_draft_132 : decode b_M_draft 132 = .ok (.iconst 2, 1) := by decide +kernel
theorem d_M_draft_133 : decode b_M_draft 133 = .ok (.idiv, 1) := by decide +kernel
theorem d_M_draft_134 : decode b_M_draft 134 = .ok (.goto 4, 3) := by decide +kernel
theorem d_M_draft_137 : decode b_M_draft 137 = .ok (.iconst 2, 1) := by decide +kernel
theorem d_M_draft_138 : decode b_M_draft 138 = .ok (.istore_n 2, 1) := by decide +kernel
theorem d_M_draft_139 : decode b_M_draft 139 = .ok (.iload_n 2, 1) := by decide +kernel
theorem d_M_draft_140 : decode b_M_draft 140 = .ok (.aload_n 0, 1) := by decide +kernel
theorem d_M_draft_141 : decode b_M_draft 141 = .ok (.getfield 153, 3) := by decide +kernel
theorem d_M_draft_144 : decode b_M_draft 144 = .ok (.if_icmp .lt 7, 3) := by decide +kernel
theorem d_M_draft_147 : decode b_M_draft 147 = .ok (.sipush (-10000), 3) := by decide +kernel
theorem d_M_draft_150 : decode b_M_draft 150 = .ok (.ireturn, 1) := by decide +kernel
theorem d_M_draft_151 : decode b_M_draft 151 = .ok (.aload_n 0, 1) := by decide +kernel
theorem d_M_draft_152 : decode b_M_draft 152 = .ok (.getfield 25, 3) := by decide +kernel
theorem d_M_draft_155 : decode b_M_draft 155 = .ok (.iload_n 2, 1) := by decide +kernel
theorem d_M_draft_156 : decode b_M_draft 156 = .ok (.iaload, 1) := by decide +kernel
theorem d_M_draft_157 : decode b_M_draft 157 = .ok (.aload_n 0, 1) := by decide +kernel
theorem d_M_draft_158 : decode b_M_draft 158 = .ok (.getfield 31, 3) := by decide +kernel
theorem d_M_draft_161 : decode b_M_draft 161 = .ok (.iload_n 2, 1) := by decide +kernel
theorem d_M_draft_162 : decode b_M_draft 162 = .ok (.iaload, 1) := by decide +kernel
theorem d_M_draft_163 : decode b_M_draft 163 = .ok (.invokestatic 171, 3) := by decide +kernel
theorem d_M_draft_166 : decode b_M_draft 166 = .ok (.istore_n 3, 1) := by decide +kernel
theorem d_M_draft_167 : decode b_M_draft 167 = .ok (.iload_n 1, 1) := by decide +kernel
theorem d_M_draft_168 : decode b_M_draft 168 = .ok (.iconst 2, 1) := by decide +kernel
theorem d_M_draft_169 : decode b_M_draft 169 = .ok (.irem, 1) := by decide +kernel
theorem d_M_draft_170 : decode b_M_draft 170 = .ok (.ifCond .ne 7, 3) := by decide +kernel
theorem d_M_draft_173 : decode b_M_draft 173 = .ok (.iconst 1, 1) := by decide +kernel
theorem d_M_draft_174 : decode b_M_draft 174 = .ok (.goto 4, 3) := by decide +kernel
theorem d_M_draft_177 : decode b_M_draft 177 = .ok (.iconst 0, 1) := by decide +kernel
theorem d_M_draft_178 : decode b_M_draft 178 = .ok (.istore 4, 2) := by decide +kernel
theorem d_M_draft_180 : decode b_M_draft 180 = .ok (.iload_n 1, 1) := by decide +kernel
theorem d_M_draft_181 : decode b_M_draft 181 = .ok (.bipush 8, 2) := by decide +kernel
theorem d_M_draft_183 : decode b_M_draft 183 = .ok (.if_icmp .ge 24, 3) := by decide +kernel
theorem d_M_draft_186 : decode b_M_draft 186 = .ok (.iload 4, 2) := by decide +kernel
theorem d_M_draft_188 : decode b_M_draft 188 = .ok (.ifCond .eq 12, 3) := by decide +kernel
theorem d_M_draft_191 : decode b_M_draft 191 = .ok (.aload_n 0, 1) := by decide +kernel
theorem d_M_draft_192 : decode b_M_draft 192 = .ok (.getfield 7, 3) := by decide +kernel
theorem d_M_draft_195 : decode b_M_draft 195 = .ok (.iload_n 3, 1) := by decide +kernel
theorem d_M_draft_196 : decode b_M_draft 196 = .ok (.iaload, 1) := by decide +kernel
theorem d_M_draft_197 : decode b_M_draft 197 = .ok (.goto 9, 3) := by decide +kernel
theorem d_M_draft_200 : decode b_M_draft 200 = .ok (.aload_n 0, 1) := by decide +kernel
theorem d_M_draft_201 : decode b_M_draft 201 = .ok (.getfield 13, 3) := by decide +kernel
theorem d_M_draft_204 : decode b_M_draft 204 = .ok (.iload_n 3, 1) := by decide +kernel
theorem d_M_draft_205 : decode b_M_draft 205 = .ok (.iaload, 1) := by decide +kernel
theorem d_M_draft_206 : decode b_M_draft 206 = .ok (.ireturn, 1) := by decide +kernel
theorem d_M_draft_207 : decode b_M_draft 207 = .ok (.iload 4, 2) := by decide +kernel
theorem d_M_draft_209 : decode b_M_draft 209 = .ok (.ifCond .eq 12, 3) := by decide +kernel
theorem d_M_draft_212 : decode b_M_draft 212 = .ok (.aload_n 0, 1) := by decide +kernel
theorem d_M_draft_213 : decode b_M_draft 213 = .ok (.getfield 34, 3) := by decide +kernel
theorem d_M_draft_216 : decode b_M_draft 216 = .ok (.iload_n 2, 1) := by decide +kernel
theorem d_M_draft_217 : decode b_M_draft 217 = .ok (.iaload, 1) := by decide +kernel
theorem d_M_draft_218 : decode b_M_draft 218 = .ok (.goto 9, 3) := by decide +kernel
theorem d_M_draft_221 : decode b_M_draft 221 = .ok (.aload_n 0, 1) := by decide +kernel
theorem d_M_draft_222 : decode b_M_draft 222 = .ok (.getfield 37, 3) := by decide +kernel
theorem d_M_draft_225 : decode b_M_draft 225 = .ok (.iload_n 2, 1) := by decide +kernel
theorem d_M_draft_226 : decode b_M_draft 226 = .ok (.iaload, 1) := by decide +kernel
theorem d_M_draft_227 : decode b_M_draft 227 = .ok (.ireturn, 1) := by decide +kernel

set_option maxHeartbeats 4000000 in
set_option maxRecDepth 100000 in
theorem c_M_connect (l : Launch) (G : yG) (z : Nat) (τ : yM) (hTb : mTb τ) (nb : Nat) (hnbr : nb ≤ 12) (hnb : τ 0 24 = (nb : Int)) (fl : Nat) (hflr : fl ≤ 16) (hfl : (if nb = 0 then 0 else τ 20 (nb - 1)) = (fl : Int)) (up : Nat → Nat) (hup : ∀ b, b < nb → up b ≤ 16 ∧ τ 20 b = (up b : Int) ∧ ∀ i, i < up b → 0 ≤ τ 23 i ∧ τ 23 i < 10009) (hsh : ∀ i, i < 2 * nb → jr (τ 22 i)) (ns no : Nat) (hns : ns ≤ 2) (hno : no ≤ 2) (hs : τ 0 4 = (ns : Int)) (ho : τ 0 13 = (no : Int)) (ht : 0 ≤ τ 0 23 ∧ τ 0 23 < 2473) (hsw : ∀ j, j < ns → 0 ≤ τ 8 j ∧ τ 8 j ≤ 2472) (how : ∀ j, j < no → 0 ≤ τ 15 j ∧ τ 15 j ≤ 2472) (hsv : ∀ j, j < ns → 0 ≤ τ 6 j ∧ τ 6 j < 1000) (hov : ∀ j, j < no → 0 ≤ τ 13 j ∧ τ 13 j < 1000) (hbr : -9999 ≤ τ 0 22 ∧ τ 0 22 ≤ 9999) (sk sl : Nat → Nat) (hsd : ∀ j, j < ns → sk j < 4 ∧ sl j < 16 ∧ τ 4 j = (sk j : Int) ∧ τ 5 j = (sl j : Int) ∧ (0 ≤ τ 3 (sk j) ∧ τ 3 (sk j) < 2473) ∧ (0 ≤ τ 7 j ∧ τ 7 j < 2473) ∧ (∀ L, L < 4 → 0 ≤ τ 11 (4 * j + L) ∧ τ 11 (4 * j + L) < 10009) ∧ jr (τ 9 j)) (hn2 : ∀ j, j < 2 → jr (τ 10 j)) (okk : Nat → Nat) (hod : ∀ j, j < no → okk j < 4 ∧ τ 12 j = (okk j : Int) ∧ (0 ≤ τ 3 (okk j) ∧ τ 3 (okk j) < 2473) ∧ (0 ≤ τ 14 j ∧ τ 14 j < 2473) ∧ jr (τ 16 j)) (hpl : jr (-(sm (τ 21) nb))) : Met l y_M_connect (Cond.code y_M_connect b_M_connect 4 (some .int) :: yT) ({ frames := 4, cells := 0, slots := 0, locals := 92 } : Room) (yP ycl G yLM 0 28 z τ (yK G) [.ref (z + 0)]) (yQg ycl G yLM 0 28 z (fun v ρ => ((cFault ns no (jgo (mA τ up nb) (mB τ sk sl) (mC τ nb) ns ns) (cif (∃ j, j < no ∧ ¬ τ 16 j = cOf (τ 3 (okk j)) (τ 13 j) (τ 14 j)) (-4) 0) (mW τ ns no nb fl)) ≠ 0 → v = (cFault ns no (jgo (mA τ up nb) (mB τ sk sl) (mC τ nb) ns ns) (cif (∃ j, j < no ∧ ¬ τ 16 j = cOf (τ 3 (okk j)) (τ 13 j) (τ 14 j)) (-4) 0) (mW τ ns no nb fl)) ∧ ∀ d, d ≠ 27 → ρ d = τ d) ∧ ((cFault ns no (jgo (mA τ up nb) (mB τ sk sl) (mC τ nb) ns ns) (cif (∃ j, j < no ∧ ¬ τ 16 j = cOf (τ 3 (okk j)) (τ 13 j) (τ 14 j)) (-4) 0) (mW τ ns no nb fl)) = 0 → v = (nb : Int) + 1 ∧ ∃ r, ρ = coM τ ns no nb fl r))) 0 0 (yA z 0 28) := by
  refine y_met (by decide +kernel) (Nat.le_of_ble_eq_true rfl) ?_
  intro p e s m below meth c ls hx hb hr hml hlocks hown hname hts hv hl
  have hA : ∀ w ∈ yT, w.before _ s = true := fun w h => hts w (List.mem_cons_of_mem _ h)
  have hl : lv_has ls 4 [(0, .ref (z + 0))] := hl
  obtain ⟨hW, hK⟩ := hv
  have hS : va_S (yA z 0 28) s.heap s.heap [] := va_S.rf
  have hAr : ∀ d, 0 ≤ d ∧ d < 0 + 28 → yA z 0 28 (z + d) := yA_all
  refine lv_aload_n hx hb d_M_connect_0 rfl (lv_at hl 0 rfl) ?_
  refine y_cg (y_runV (As := []) (rest := []) ⟨hx, hb, hml, hown, hts⟩ (c_M_fault l G z τ hTb nb hnbr hnb fl hflr hfl up hup hsh ns no hns hno hs ho ht hsw how hsv hov hbr sk sl hsd hn2 okk hod hpl) 0 k_co_M_fault k_ml_M_189 k_im_M_fault k_se_M_fault k_in_M rfl rfl (by decide +kernel) ⟨Nat.le_of_ble_eq_true rfl, Nat.le_of_ble_eq_true rfl⟩ (yPv (yK_bl G) (yK_mv G) hK hK.1 hW (by omega) laym_0 rfl (by omega) (by omega)) rfl hl.1 rfl (Nat.le_of_ble_eq_true rfl) d_M_connect_1 ⟨Nat.zero_le _, Nat.zero_le _⟩) hS hAr (fun v1 τ1 H locs hp1 hk1 hW hS => ?_)
  obtain ⟨hv1, hr1⟩ := hp1
  obtain ⟨r, e_r⟩ : ∃ r', τ1 = yr τ r' := ⟨τ1 27, yr_to hr1⟩
  subst e_r
  have hfr : -8 ≤ (cFault ns no (jgo (mA τ up nb) (mB τ sk sl) (mC τ nb) ns ns) (cif (∃ j, j < no ∧ ¬ τ 16 j = cOf (τ 3 (okk j)) (τ 13 j) (τ 14 j)) (-4) 0) (mW τ ns no nb fl)) ∧ (cFault ns no (jgo (mA τ up nb) (mB τ sk sl) (mC τ nb) ns ns) (cif (∃ j, j < no ∧ ¬ τ 16 j = cOf (τ 3 (okk j)) (τ 13 j) (τ 14 j)) (-4) 0) (mW τ ns no nb fl)) ≤ 0 := cF_rng (by have := jgo_rng (mA τ up nb) (mB τ sk sl) (mC τ nb) ns ns; omega) (by have := cif_rng (∃ j, j < no ∧ ¬ τ 16 j = cOf (τ 3 (okk j)) (τ 13 j) (τ 14 j)); omega) (mW_rng _ _ _ _ _)
  rw [← hv1] at hfr
  refine lv_istore_n (lv' := [(1, .int (J (v1))), (0, .ref (z + 0))]) hx hb d_M_connect_4 rfl hl (by decide) rfl (fun ls hl => ?_)
  refine lv_iload_n hx hb d_M_connect_5 rfl (lv_at hl 0 rfl) ?_
  refine y_if_eq (tgt := 11) hx hb d_M_connect_6 (by decide) ⟨by omega, by omega⟩ (fun hz1 => ?_) (fun hz1 => ?_)
  · skip
    have hF0 := hv1.symm.trans hz1
    have hw0 := mW_0 (cF_0 hF0)
    refine lv_aload_n hx hb d_M_connect_11 rfl (lv_at hl 1 rfl) ?_
    refine y_ci (y_runV (As := []) (rest := []) ⟨hx, hb, hml, hown, hts⟩ (c_M_leaves l G z (yr τ r) nb hnbr hnb) 0 k_co_M_leaves k_ml_M_114 k_im_M_leaves k_se_M_leaves k_in_M rfl rfl (by decide +kernel) ⟨Nat.le_of_ble_eq_true rfl, Nat.le_of_ble_eq_true rfl⟩ (yPv (yK_bl G) (yK_mv G) hK hK.1 hW (by omega) laym_0 rfl (by omega) (by omega)) rfl hl.1 rfl (Nat.le_of_ble_eq_true rfl) d_M_connect_12 ⟨Nat.zero_le _, Nat.zero_le _⟩) hS hW (fun H locs hW hS => ?_)
    refine W.eq (g2 := F0 m 15 ls [.int (J ((fl : Int)))]) (by rw [show (if nb = 0 then 0 else (yr τ r) 20 (nb - 1)) = (fl : Int) from hfl]) ?_
    refine lv_istore_n (lv' := [(2, .int (J ((fl : Int)))), (1, .int (J (v1))), (0, .ref (z + 0))]) hx hb d_M_connect_15 rfl hl (by decide) rfl (fun ls hl => ?_)
    refine lv_iconst (v := J (0)) hx hb d_M_connect_16 rfl ?_
    refine lv_istore_n (lv' := [(3, .int (J (0))), (2, .int (J ((fl : Int)))), (1, .int (J (v1))), (0, .ref (z + 0))]) hx hb d_M_connect_17 rfl hl (by decide) rfl (fun ls hl => ?_)
    have loop18 : ∀ (q9 j : Nat), j + q9 = no → ∀ (ls : Array Slot) (H : Heap) (locs : List Loc), yW ycl G yLM 0 28 z (cpM τ fl j r) H → va_S (yA z 0 28) s.heap H locs → lv_has ls 4 [(3, .int (J (((j : Nat) : Int)))), (2, .int (J ((fl : Int)))), (1, .int (J (v1))), (0, .ref (z + 0))] → W p l e ({ frames := 4, cells := 0, slots := 0, locals := 92 } : Room) s m ([.ref (z + 0)] : List Value).toArray below meth c H locs 0 0 (MQ below (yQg ycl G yLM 0 28 z (fun v ρ => ((cFault ns no (jgo (mA τ up nb) (mB τ sk sl) (mC τ nb) ns ns) (cif (∃ j, j < no ∧ ¬ τ 16 j = cOf (τ 3 (okk j)) (τ 13 j) (τ 14 j)) (-4) 0) (mW τ ns no nb fl)) ≠ 0 → v = (cFault ns no (jgo (mA τ up nb) (mB τ sk sl) (mC τ nb) ns ns) (cif (∃ j, j < no ∧ ¬ τ 16 j = cOf (τ 3 (okk j)) (τ 13 j) (τ 14 j)) (-4) 0) (mW τ ns no nb fl)) ∧ ∀ d, d ≠ 27 → ρ d = τ d) ∧ ((cFault ns no (jgo (mA τ up nb) (mB τ sk sl) (mC τ nb) ns ns) (cif (∃ j, j < no ∧ ¬ τ 16 j = cOf (τ 3 (okk j)) (τ 13 j) (τ 14 j)) (-4) 0) (mW τ ns no nb fl)) = 0 → v = (nb : Int) + 1 ∧ ∃ r, ρ = coM τ ns no nb fl r))) ([.ref (z + 0)] : List Value).toArray s 0 0 (yA z 0 28)) (F0 m 18 ls []) := by
      intro q9
      induction q9 with
      | zero =>
        intro j hjk ls H locs hW hS hl
        have hjN : no = j := by omega
        subst hjN
        refine lv_iload_n hx hb d_M_connect_18 rfl (lv_at hl 0 rfl) ?_
        refine lv_aload_n hx hb d_M_connect_19 rfl (lv_at hl 3 rfl) ?_
        refine y_geti hx hb hA in_M hown hK.1 hW 0 (by omega) laym_0 rfl 13 (by decide) (hA _ k_fl_M_156) rfl d_M_connect_20 ?_
        rw [cp_o (show 0 < 23 by decide)]
        rw [ho]
        refine y_icmp_ge (tgt := 88) hx hb d_M_connect_23 (by decide) ⟨by omega, by omega⟩ ⟨by omega, by omega⟩ (fun hc2 => ?_) (fun hc2 => absurd hc2 (by omega))
        refine lv_aload_n hx hb d_M_connect_88 rfl (lv_at hl 3 rfl) ?_
        refine y_getr hx hb hA in_M hown hK.1 hW 0 (by omega) laym_0 rfl 25 (by decide) (hA _ k_fl_M_67) rfl d_M_connect_89 ?_
        refine lv_aload_n hx hb d_M_connect_92 rfl (lv_at hl 3 rfl) ?_
        refine y_geti hx hb hA in_M hown hK.1 hW 0 (by omega) laym_0 rfl 24 (by decide) (hA _ k_fl_M_106) rfl d_M_connect_93 ?_
        rw [cp_o (show 0 < 23 by decide)]
        rw [hnb]
        refine lv_iload_n hx hb d_M_connect_96 rfl (lv_at hl 1 rfl) ?_
        refine lv_aload_n hx hb d_M_connect_97 rfl (lv_at hl 3 rfl) ?_
        refine y_geti hx hb hA in_M hown hK.1 hW 0 (by omega) laym_0 rfl 13 (by decide) (hA _ k_fl_M_156) rfl d_M_connect_98 ?_
        rw [cp_o (show 0 < 23 by decide)]
        rw [ho]
        refine y_iadd hx hb d_M_connect_101 ?_
        refine y_iast hx hb hK.1 hW 20 (by omega) laym_20 rfl (by decide) hS hAr nb rfl (by omega) d_M_connect_102 (fun H locs hW hS => ?_)
        refine lv_aload_n hx hb d_M_connect_103 rfl (lv_at hl 3 rfl) ?_
        refine y_getr hx hb hA in_M hown hK.1 hW 0 (by omega) laym_0 rfl 26 (by decide) (hA _ k_fl_M_70) rfl d_M_connect_104 ?_
        refine lv_aload_n hx hb d_M_connect_107 rfl (lv_at hl 3 rfl) ?_
        refine y_geti hx hb hA in_M hown hK.1 hW 0 (by omega) laym_0 rfl 24 (by decide) (hA _ k_fl_M_106) rfl d_M_connect_108 ?_
        rw [y2_cl (show 0 ≠ 20 by omega), cp_o (show 0 < 23 by decide)]
        rw [hnb]
        refine lv_aload_n hx hb d_M_connect_111 rfl (lv_at hl 3 rfl) ?_
        refine y_geti hx hb hA in_M hown hK.1 hW 0 (by omega) laym_0 rfl 22 (by decide) (hA _ k_fl_M_159) rfl d_M_connect_112 ?_
        rw [y2_cl (show 0 ≠ 20 by omega), cp_o (show 0 < 23 by decide)]
        refine y_iast hx hb hK.1 hW 21 (by omega) laym_21 rfl (by decide) hS hAr nb rfl (by omega) d_M_connect_115 (fun H locs hW hS => ?_)
        refine lv_aload_n hx hb d_M_connect_116 rfl (lv_at hl 3 rfl) ?_
        refine y_getr hx hb hA in_M hown hK.1 hW 0 (by omega) laym_0 rfl 27 (by decide) (hA _ k_fl_M_73) rfl d_M_connect_117 ?_
        refine lv_iconst (v := J (2)) hx hb d_M_connect_120 rfl ?_
        refine lv_aload_n hx hb d_M_connect_121 rfl (lv_at hl 3 rfl) ?_
        refine y_geti hx hb hA in_M hown hK.1 hW 0 (by omega) laym_0 rfl 24 (by decide) (hA _ k_fl_M_106) rfl d_M_connect_122 ?_
        rw [y2_cl (show 0 ≠ 21 by omega), y2_cl (show 0 ≠ 20 by omega), cp_o (show 0 < 23 by decide)]
        rw [hnb]
        refine y_imul hx hb d_M_connect_125 ?_
        refine lv_aload_n hx hb d_M_connect_126 rfl (lv_at hl 3 rfl) ?_
        refine y_geti hx hb hA in_M hown hK.1 hW 0 (by omega) laym_0 rfl 4 (by decide) (hA _ k_fl_M_153) rfl d_M_connect_127 ?_
        rw [y2_cl (show 0 ≠ 21 by omega), y2_cl (show 0 ≠ 20 by omega), cp_o (show 0 < 23 by decide)]
        rw [hs]
        refine y_if_le (tgt := 142) hx hb d_M_connect_130 (by decide) ⟨by omega, by omega⟩ (fun hs0 => ?_) (fun hs0 => ?_)
        · skip
          refine lv_iconst (v := J (-1)) hx hb d_M_connect_142 rfl ?_
          refine y_iast hx hb hK.1 hW 22 (by omega) laym_22 rfl (by decide) hS hAr (2 * nb) (by omega) (by omega) d_M_connect_143 (fun H locs hW hS => ?_)
          refine lv_aload_n hx hb d_M_connect_144 rfl (lv_at hl 3 rfl) ?_
          refine y_getr hx hb hA in_M hown hK.1 hW 0 (by omega) laym_0 rfl 27 (by decide) (hA _ k_fl_M_73) rfl d_M_connect_145 ?_
          refine lv_iconst (v := J (2)) hx hb d_M_connect_148 rfl ?_
          refine lv_aload_n hx hb d_M_connect_149 rfl (lv_at hl 3 rfl) ?_
          refine y_geti hx hb hA in_M hown hK.1 hW 0 (by omega) laym_0 rfl 24 (by decide) (hA _ k_fl_M_106) rfl d_M_connect_150 ?_
          rw [y2_cl (show 0 ≠ 22 by omega), y2_cl (show 0 ≠ 21 by omega), y2_cl (show 0 ≠ 20 by omega), cp_o (show 0 < 23 by decide)]
          rw [hnb]
          refine y_imul hx hb d_M_connect_153 ?_
          refine lv_iconst (v := J (1)) hx hb d_M_connect_154 rfl ?_
          refine y_iadd hx hb d_M_connect_155 ?_
          refine lv_aload_n hx hb d_M_connect_156 rfl (lv_at hl 3 rfl) ?_
          refine y_geti hx hb hA in_M hown hK.1 hW 0 (by omega) laym_0 rfl 4 (by decide) (hA _ k_fl_M_153) rfl d_M_connect_157 ?_
          rw [y2_cl (show 0 ≠ 22 by omega), y2_cl (show 0 ≠ 21 by omega), y2_cl (show 0 ≠ 20 by omega), cp_o (show 0 < 23 by decide)]
          rw [hs]
          refine lv_iconst (v := J (1)) hx hb d_M_connect_160 rfl ?_
          refine y_icmp_le (tgt := 173) hx hb d_M_connect_161 (by decide) ⟨by omega, by omega⟩ ⟨by omega, by omega⟩ (fun hs1 => ?_) (fun hs1 => ?_)
          · skip
            refine lv_iconst (v := J (-1)) hx hb d_M_connect_173 rfl ?_
            refine y_iast hx hb hK.1 hW 22 (by omega) laym_22 rfl (by decide) hS hAr (2 * nb + 1) (by omega) (by omega) d_M_connect_174 (fun H locs hW hS => ?_)
            refine lv_aload_n hx hb d_M_connect_175 rfl (lv_at hl 3 rfl) ?_
            refine lv_dup hx hb d_M_connect_176 rfl ?_
            refine y_geti hx hb hA in_M hown hK.1 hW 0 (by omega) laym_0 rfl 24 (by decide) (hA _ k_fl_M_106) rfl d_M_connect_177 ?_
            rw [y2_cl (show 0 ≠ 22 by omega), y2_cl (show 0 ≠ 22 by omega), y2_cl (show 0 ≠ 21 by omega), y2_cl (show 0 ≠ 20 by omega), cp_o (show 0 < 23 by decide)]
            rw [hnb]
            refine lv_iconst (v := J (1)) hx hb d_M_connect_180 rfl ?_
            refine y_iadd hx hb d_M_connect_181 ?_
            refine y_puti hx hb hA in_M hown hK.1 hW 0 (by omega) laym_0 rfl 24 (by decide) t_M tk_M nm_M hS hAr (hA _ k_fl_M_106) rfl (by decide +kernel) rfl d_M_connect_182 (fun H locs hW hS => ?_)
            refine lv_aload_n hx hb d_M_connect_185 rfl (lv_at hl 3 rfl) ?_
            refine y_ch (y_runV (As := []) (rest := []) ⟨hx, hb, hml, hown, hts⟩ (c_M_clear l G z (y2 (y2 (y2 (y2 (y2 (cpM τ fl no r) 20 nb ((fl : Int) + (no : Int))) 21 nb (τ 0 22)) 22 (2 * nb) (-1)) 22 (2 * nb + 1) (-1)) 0 24 ((nb : Int) + 1))) 0 k_co_M_clear k_ml_M_192 k_im_M_clear k_se_M_clear k_in_M rfl rfl (by decide +kernel) ⟨Nat.le_of_ble_eq_true rfl, Nat.le_of_ble_eq_true rfl⟩ (yPv (yK_bl G) (yK_mv G) hK hK.1 hW (by omega) laym_0 rfl (by omega) (by omega)) rfl hl.1 rfl (Nat.le_of_ble_eq_true rfl) d_M_connect_186 ⟨Nat.zero_le _, Nat.zero_le _⟩) hS hAr (fun τ186 H locs hp186 hk186 hW hS => ?_)
            subst hp186
            refine lv_aload_n hx hb d_M_connect_189 rfl (lv_at hl 3 rfl) ?_
            refine y_geti hx hb hA in_M hown hK.1 hW 0 (by omega) laym_0 rfl 24 (by decide) (hA _ k_fl_M_106) rfl d_M_connect_190 ?_
            rw [y2_ot (by decide), y2_ot (by decide), y2_ot (by decide), y2_ot (by decide), y2_at]
            exact y_retg hx hb hr hlocks hS hW ⟨fun h => absurd hF0 h, fun _ => ⟨rfl, r, by unfold coM; rw [show (if 0 < ns then τ 10 0 else -1) = -1 from (if_neg (by omega)), show (if 1 < ns then τ 10 1 else -1) = -1 from (if_neg (by omega))]⟩⟩ d_M_connect_193
          · skip
            refine lv_aload_n hx hb d_M_connect_164 rfl (lv_at hl 3 rfl) ?_
            refine y_getr hx hb hA in_M hown hK.1 hW 0 (by omega) laym_0 rfl 11 (by decide) (hA _ k_fl_M_37) rfl d_M_connect_165 ?_
            refine lv_iconst (v := J (1)) hx hb d_M_connect_168 rfl ?_
            refine y_iald hx hb hK.1 hW 10 (by omega) laym_10 rfl (by decide) 1 rfl (by omega) d_M_connect_169 ?_
            rw [y2_cl (show 10 ≠ 22 by omega), y2_cl (show 10 ≠ 21 by omega), y2_cl (show 10 ≠ 20 by omega), cp_o (show 10 < 23 by decide)]
            refine lv_goto (tgt := 174) hx hb d_M_connect_170 (by decide) ?_
            refine y_iast hx hb hK.1 hW 22 (by omega) laym_22 rfl (by decide) hS hAr (2 * nb + 1) (by omega) (by omega) d_M_connect_174 (fun H locs hW hS => ?_)
            refine lv_aload_n hx hb d_M_connect_175 rfl (lv_at hl 3 rfl) ?_
            refine lv_dup hx hb d_M_connect_176 rfl ?_
            refine y_geti hx hb hA in_M hown hK.1 hW 0 (by omega) laym_0 rfl 24 (by decide) (hA _ k_fl_M_106) rfl d_M_connect_177 ?_
            rw [y2_cl (show 0 ≠ 22 by omega), y2_cl (show 0 ≠ 22 by omega), y2_cl (show 0 ≠ 21 by omega), y2_cl (show 0 ≠ 20 by omega), cp_o (show 0 < 23 by decide)]
            rw [hnb]
            refine lv_iconst (v := J (1)) hx hb d_M_connect_180 rfl ?_
            refine y_iadd hx hb d_M_connect_181 ?_
            refine y_puti hx hb hA in_M hown hK.1 hW 0 (by omega) laym_0 rfl 24 (by decide) t_M tk_M nm_M hS hAr (hA _ k_fl_M_106) rfl (by decide +kernel) rfl d_M_connect_182 (fun H locs hW hS => ?_)
            refine lv_aload_n hx hb d_M_connect_185 rfl (lv_at hl 3 rfl) ?_
            refine y_ch (y_runV (As := []) (rest := []) ⟨hx, hb, hml, hown, hts⟩ (c_M_clear l G z (y2 (y2 (y2 (y2 (y2 (cpM τ fl no r) 20 nb ((fl : Int) + (no : Int))) 21 nb (τ 0 22)) 22 (2 * nb) (-1)) 22 (2 * nb + 1) (τ 10 1)) 0 24 ((nb : Int) + 1))) 0 k_co_M_clear k_ml_M_192 k_im_M_clear k_se_M_clear k_in_M rfl rfl (by decide +kernel) ⟨Nat.le_of_ble_eq_true rfl, Nat.le_of_ble_eq_true rfl⟩ (yPv (yK_bl G) (yK_mv G) hK hK.1 hW (by omega) laym_0 rfl (by omega) (by omega)) rfl hl.1 rfl (Nat.le_of_ble_eq_true rfl) d_M_connect_186 ⟨Nat.zero_le _, Nat.zero_le _⟩) hS hAr (fun τ186 H locs hp186 hk186 hW hS => ?_)
            subst hp186
            refine lv_aload_n hx hb d_M_connect_189 rfl (lv_at hl 3 rfl) ?_
            refine y_geti hx hb hA in_M hown hK.1 hW 0 (by omega) laym_0 rfl 24 (by decide) (hA _ k_fl_M_106) rfl d_M_connect_190 ?_
            rw [y2_ot (by decide), y2_ot (by decide), y2_ot (by decide), y2_ot (by decide), y2_at]
            exact y_retg hx hb hr hlocks hS hW ⟨fun h => absurd hF0 h, fun _ => ⟨rfl, r, by unfold coM; rw [show (if 0 < ns then τ 10 0 else -1) = -1 from (if_neg (by omega)), show (if 1 < ns then τ 10 1 else -1) = τ 10 1 from (if_pos (by omega))]⟩⟩ d_M_connect_193
        · skip
          refine lv_aload_n hx hb d_M_connect_133 rfl (lv_at hl 3 rfl) ?_
          refine y_getr hx hb hA in_M hown hK.1 hW 0 (by omega) laym_0 rfl 11 (by decide) (hA _ k_fl_M_37) rfl d_M_connect_134 ?_
          refine lv_iconst (v := J (0)) hx hb d_M_connect_137 rfl ?_
          refine y_iald hx hb hK.1 hW 10 (by omega) laym_10 rfl (by decide) 0 rfl (by omega) d_M_connect_138 ?_
          rw [y2_cl (show 10 ≠ 21 by omega), y2_cl (show 10 ≠ 20 by omega), cp_o (show 10 < 23 by decide)]
          refine lv_goto (tgt := 143) hx hb d_M_connect_139 (by decide) ?_
          refine y_iast hx hb hK.1 hW 22 (by omega) laym_22 rfl (by decide) hS hAr (2 * nb) (by omega) (by omega) d_M_connect_143 (fun H locs hW hS => ?_)
          refine lv_aload_n hx hb d_M_connect_144 rfl (lv_at hl 3 rfl) ?_
          refine y_getr hx hb hA in_M hown hK.1 hW 0 (by omega) laym_0 rfl 27 (by decide) (hA _ k_fl_M_73) rfl d_M_connect_145 ?_
          refine lv_iconst (v := J (2)) hx hb d_M_connect_148 rfl ?_
          refine lv_aload_n hx hb d_M_connect_149 rfl (lv_at hl 3 rfl) ?_
          refine y_geti hx hb hA in_M hown hK.1 hW 0 (by omega) laym_0 rfl 24 (by decide) (hA _ k_fl_M_106) rfl d_M_connect_150 ?_
          rw [y2_cl (show 0 ≠ 22 by omega), y2_cl (show 0 ≠ 21 by omega), y2_cl (show 0 ≠ 20 by omega), cp_o (show 0 < 23 by decide)]
          rw [hnb]
          refine y_imul hx hb d_M_connect_153 ?_
          refine lv_iconst (v := J (1)) hx hb d_M_connect_154 rfl ?_
          refine y_iadd hx hb d_M_connect_155 ?_
          refine lv_aload_n hx hb d_M_connect_156 rfl (lv_at hl 3 rfl) ?_
          refine y_geti hx hb hA in_M hown hK.1 hW 0 (by omega) laym_0 rfl 4 (by decide) (hA _ k_fl_M_153) rfl d_M_connect_157 ?_
          rw [y2_cl (show 0 ≠ 22 by omega), y2_cl (show 0 ≠ 21 by omega), y2_cl (show 0 ≠ 20 by omega), cp_o (show 0 < 23 by decide)]
          rw [hs]
          refine lv_iconst (v := J (1)) hx hb d_M_connect_160 rfl ?_
          refine y_icmp_le (tgt := 173) hx hb d_M_connect_161 (by decide) ⟨by omega, by omega⟩ ⟨by omega, by omega⟩ (fun hs1 => ?_) (fun hs1 => ?_)
          · skip
            refine lv_iconst (v := J (-1)) hx hb d_M_connect_173 rfl ?_
            refine y_iast hx hb hK.1 hW 22 (by omega) laym_22 rfl (by decide) hS hAr (2 * nb + 1) (by omega) (by omega) d_M_connect_174 (fun H locs hW hS => ?_)
            refine lv_aload_n hx hb d_M_connect_175 rfl (lv_at hl 3 rfl) ?_
            refine lv_dup hx hb d_M_connect_176 rfl ?_
            refine y_geti hx hb hA in_M hown hK.1 hW 0 (by omega) laym_0 rfl 24 (by decide) (hA _ k_fl_M_106) rfl d_M_connect_177 ?_
            rw [y2_cl (show 0 ≠ 22 by omega), y2_cl (show 0 ≠ 22 by omega), y2_cl (show 0 ≠ 21 by omega), y2_cl (show 0 ≠ 20 by omega), cp_o (show 0 < 23 by decide)]
            rw [hnb]
            refine lv_iconst (v := J (1)) hx hb d_M_connect_180 rfl ?_
            refine y_iadd hx hb d_M_connect_181 ?_
            refine y_puti hx hb hA in_M hown hK.1 hW 0 (by omega) laym_0 rfl 24 (by decide) t_M tk_M nm_M hS hAr (hA _ k_fl_M_106) rfl (by decide +kernel) rfl d_M_connect_182 (fun H locs hW hS => ?_)
            refine lv_aload_n hx hb d_M_connect_185 rfl (lv_at hl 3 rfl) ?_
            refine y_ch (y_runV (As := []) (rest := []) ⟨hx, hb, hml, hown, hts⟩ (c_M_clear l G z (y2 (y2 (y2 (y2 (y2 (cpM τ fl no r) 20 nb ((fl : Int) + (no : Int))) 21 nb (τ 0 22)) 22 (2 * nb) (τ 10 0)) 22 (2 * nb + 1) (-1)) 0 24 ((nb : Int) + 1))) 0 k_co_M_clear k_ml_M_192 k_im_M_clear k_se_M_clear k_in_M rfl rfl (by decide +kernel) ⟨Nat.le_of_ble_eq_true rfl, Nat.le_of_ble_eq_true rfl⟩ (yPv (yK_bl G) (yK_mv G) hK hK.1 hW (by omega) laym_0 rfl (by omega) (by omega)) rfl hl.1 rfl (Nat.le_of_ble_eq_true rfl) d_M_connect_186 ⟨Nat.zero_le _, Nat.zero_le _⟩) hS hAr (fun τ186 H locs hp186 hk186 hW hS => ?_)
            subst hp186
            refine lv_aload_n hx hb d_M_connect_189 rfl (lv_at hl 3 rfl) ?_
            refine y_geti hx hb hA in_M hown hK.1 hW 0 (by omega) laym_0 rfl 24 (by decide) (hA _ k_fl_M_106) rfl d_M_connect_190 ?_
            rw [y2_ot (by decide), y2_ot (by decide), y2_ot (by decide), y2_ot (by decide), y2_at]
            exact y_retg hx hb hr hlocks hS hW ⟨fun h => absurd hF0 h, fun _ => ⟨rfl, r, by unfold coM; rw [show (if 0 < ns then τ 10 0 else -1) = τ 10 0 from (if_pos (by omega)), show (if 1 < ns then τ 10 1 else -1) = -1 from (if_neg (by omega))]⟩⟩ d_M_connect_193
          · skip
            refine lv_aload_n hx hb d_M_connect_164 rfl (lv_at hl 3 rfl) ?_
            refine y_getr hx hb hA in_M hown hK.1 hW 0 (by omega) laym_0 rfl 11 (by decide) (hA _ k_fl_M_37) rfl d_M_connect_165 ?_
            refine lv_iconst (v := J (1)) hx hb d_M_connect_168 rfl ?_
            refine y_iald hx hb hK.1 hW 10 (by omega) laym_10 rfl (by decide) 1 rfl (by omega) d_M_connect_169 ?_
            rw [y2_cl (show 10 ≠ 22 by omega), y2_cl (show 10 ≠ 21 by omega), y2_cl (show 10 ≠ 20 by omega), cp_o (show 10 < 23 by decide)]
            refine lv_goto (tgt := 174) hx hb d_M_connect_170 (by decide) ?_
            refine y_iast hx hb hK.1 hW 22 (by omega) laym_22 rfl (by decide) hS hAr (2 * nb + 1) (by omega) (by omega) d_M_connect_174 (fun H locs hW hS => ?_)
            refine lv_aload_n hx hb d_M_connect_175 rfl (lv_at hl 3 rfl) ?_
            refine lv_dup hx hb d_M_connect_176 rfl ?_
            refine y_geti hx hb hA in_M hown hK.1 hW 0 (by omega) laym_0 rfl 24 (by decide) (hA _ k_fl_M_106) rfl d_M_connect_177 ?_
            rw [y2_cl (show 0 ≠ 22 by omega), y2_cl (show 0 ≠ 22 by omega), y2_cl (show 0 ≠ 21 by omega), y2_cl (show 0 ≠ 20 by omega), cp_o (show 0 < 23 by decide)]
            rw [hnb]
            refine lv_iconst (v := J (1)) hx hb d_M_connect_180 rfl ?_
            refine y_iadd hx hb d_M_connect_181 ?_
            refine y_puti hx hb hA in_M hown hK.1 hW 0 (by omega) laym_0 rfl 24 (by decide) t_M tk_M nm_M hS hAr (hA _ k_fl_M_106) rfl (by decide +kernel) rfl d_M_connect_182 (fun H locs hW hS => ?_)
            refine lv_aload_n hx hb d_M_connect_185 rfl (lv_at hl 3 rfl) ?_
            refine y_ch (y_runV (As := []) (rest := []) ⟨hx, hb, hml, hown, hts⟩ (c_M_clear l G z (y2 (y2 (y2 (y2 (y2 (cpM τ fl no r) 20 nb ((fl : Int) + (no : Int))) 21 nb (τ 0 22)) 22 (2 * nb) (τ 10 0)) 22 (2 * nb + 1) (τ 10 1)) 0 24 ((nb : Int) + 1))) 0 k_co_M_clear k_ml_M_192 k_im_M_clear k_se_M_clear k_in_M rfl rfl (by decide +kernel) ⟨Nat.le_of_ble_eq_true rfl, Nat.le_of_ble_eq_true rfl⟩ (yPv (yK_bl G) (yK_mv G) hK hK.1 hW (by omega) laym_0 rfl (by omega) (by omega)) rfl hl.1 rfl (Nat.le_of_ble_eq_true rfl) d_M_connect_186 ⟨Nat.zero_le _, Nat.zero_le _⟩) hS hAr (fun τ186 H locs hp186 hk186 hW hS => ?_)
            subst hp186
            refine lv_aload_n hx hb d_M_connect_189 rfl (lv_at hl 3 rfl) ?_
            refine y_geti hx hb hA in_M hown hK.1 hW 0 (by omega) laym_0 rfl 24 (by decide) (hA _ k_fl_M_106) rfl d_M_connect_190 ?_
            rw [y2_ot (by decide), y2_ot (by decide), y2_ot (by decide), y2_ot (by decide), y2_at]
            exact y_retg hx hb hr hlocks hS hW ⟨fun h => absurd hF0 h, fun _ => ⟨rfl, r, by unfold coM; rw [show (if 0 < ns then τ 10 0 else -1) = τ 10 0 from (if_pos (by omega)), show (if 1 < ns then τ 10 1 else -1) = τ 10 1 from (if_pos (by omega))]⟩⟩ d_M_connect_193
      | succ q9 ih =>
        intro j hjk ls H locs hW hS hl
        refine lv_iload_n hx hb d_M_connect_18 rfl (lv_at hl 0 rfl) ?_
        refine lv_aload_n hx hb d_M_connect_19 rfl (lv_at hl 3 rfl) ?_
        refine y_geti hx hb hA in_M hown hK.1 hW 0 (by omega) laym_0 rfl 13 (by decide) (hA _ k_fl_M_156) rfl d_M_connect_20 ?_
        rw [cp_o (show 0 < 23 by decide)]
        rw [ho]
        refine y_icmp_ge (tgt := 88) hx hb d_M_connect_23 (by decide) ⟨by omega, by omega⟩ ⟨by omega, by omega⟩ (fun hc6 => absurd hc6 (by omega)) (fun hc6 => ?_)
        refine lv_aload_n hx hb d_M_connect_26 rfl (lv_at hl 3 rfl) ?_
        refine y_getr hx hb hA in_M hown hK.1 hW 0 (by omega) laym_0 rfl 28 (by decide) (hA _ k_fl_M_76) rfl d_M_connect_27 ?_
        refine lv_iload_n hx hb d_M_connect_30 rfl (lv_at hl 1 rfl) ?_
        refine lv_iload_n hx hb d_M_connect_31 rfl (lv_at hl 0 rfl) ?_
        refine y_iadd hx hb d_M_connect_32 ?_
        refine lv_aload_n hx hb d_M_connect_33 rfl (lv_at hl 3 rfl) ?_
        refine y_getr hx hb hA in_M hown hK.1 hW 0 (by omega) laym_0 rfl 18 (by decide) (hA _ k_fl_M_55) rfl d_M_connect_34 ?_
        refine lv_iload_n hx hb d_M_connect_37 rfl (lv_at hl 0 rfl) ?_
        refine y_iald hx hb hK.1 hW 16 (by omega) laym_16 rfl (by decide) j rfl (by omega) d_M_connect_38 ?_
        rw [cp_o (show 16 < 23 by decide)]
        refine y_iast hx hb hK.1 hW 23 (by omega) laym_23 rfl (by decide) hS hAr (fl + j) (Int.natCast_add fl j).symm (by omega) d_M_connect_39 (fun H locs hW hS => ?_)
        refine lv_aload_n hx hb d_M_connect_40 rfl (lv_at hl 3 rfl) ?_
        refine y_getr hx hb hA in_M hown hK.1 hW 0 (by omega) laym_0 rfl 29 (by decide) (hA _ k_fl_M_79) rfl d_M_connect_41 ?_
        refine lv_iload_n hx hb d_M_connect_44 rfl (lv_at hl 1 rfl) ?_
        refine lv_iload_n hx hb d_M_connect_45 rfl (lv_at hl 0 rfl) ?_
        refine y_iadd hx hb d_M_connect_46 ?_
        refine lv_aload_n hx hb d_M_connect_47 rfl (lv_at hl 3 rfl) ?_
        refine y_getr hx hb hA in_M hown hK.1 hW 0 (by omega) laym_0 rfl 19 (by decide) (hA _ k_fl_M_58) rfl d_M_connect_48 ?_
        refine lv_iload_n hx hb d_M_connect_51 rfl (lv_at hl 0 rfl) ?_
        refine y_iald hx hb hK.1 hW 17 (by omega) laym_17 rfl (by decide) j rfl (by omega) d_M_connect_52 ?_
        rw [y2_cl (show 17 ≠ 23 by omega), cp_o (show 17 < 23 by decide)]
        refine y_iast hx hb hK.1 hW 24 (by omega) laym_24 rfl (by decide) hS hAr (fl + j) (Int.natCast_add fl j).symm (by omega) d_M_connect_53 (fun H locs hW hS => ?_)
        refine lv_aload_n hx hb d_M_connect_54 rfl (lv_at hl 3 rfl) ?_
        refine y_getr hx hb hA in_M hown hK.1 hW 0 (by omega) laym_0 rfl 30 (by decide) (hA _ k_fl_M_82) rfl d_M_connect_55 ?_
        refine lv_iload_n hx hb d_M_connect_58 rfl (lv_at hl 1 rfl) ?_
        refine lv_iload_n hx hb d_M_connect_59 rfl (lv_at hl 0 rfl) ?_
        refine y_iadd hx hb d_M_connect_60 ?_
        refine lv_aload_n hx hb d_M_connect_61 rfl (lv_at hl 3 rfl) ?_
        refine y_getr hx hb hA in_M hown hK.1 hW 0 (by omega) laym_0 rfl 20 (by decide) (hA _ k_fl_M_61) rfl d_M_connect_62 ?_
        refine lv_iload_n hx hb d_M_connect_65 rfl (lv_at hl 0 rfl) ?_
        refine y_iald hx hb hK.1 hW 18 (by omega) laym_18 rfl (by decide) j rfl (by omega) d_M_connect_66 ?_
        rw [y2_cl (show 18 ≠ 24 by omega), y2_cl (show 18 ≠ 23 by omega), cp_o (show 18 < 23 by decide)]
        refine y_iast hx hb hK.1 hW 25 (by omega) laym_25 rfl (by decide) hS hAr (fl + j) (Int.natCast_add fl j).symm (by omega) d_M_connect_67 (fun H locs hW hS => ?_)
        refine lv_aload_n hx hb d_M_connect_68 rfl (lv_at hl 3 rfl) ?_
        refine y_getr hx hb hA in_M hown hK.1 hW 0 (by omega) laym_0 rfl 31 (by decide) (hA _ k_fl_M_85) rfl d_M_connect_69 ?_
        refine lv_iload_n hx hb d_M_connect_72 rfl (lv_at hl 1 rfl) ?_
        refine lv_iload_n hx hb d_M_connect_73 rfl (lv_at hl 0 rfl) ?_
        refine y_iadd hx hb d_M_connect_74 ?_
        refine lv_aload_n hx hb d_M_connect_75 rfl (lv_at hl 3 rfl) ?_
        refine y_getr hx hb hA in_M hown hK.1 hW 0 (by omega) laym_0 rfl 21 (by decide) (hA _ k_fl_M_64) rfl d_M_connect_76 ?_
        refine lv_iload_n hx hb d_M_connect_79 rfl (lv_at hl 0 rfl) ?_
        refine y_iald hx hb hK.1 hW 19 (by omega) laym_19 rfl (by decide) j rfl (by omega) d_M_connect_80 ?_
        rw [y2_cl (show 19 ≠ 25 by omega), y2_cl (show 19 ≠ 24 by omega), y2_cl (show 19 ≠ 23 by omega), cp_o (show 19 < 23 by decide)]
        refine y_iast hx hb hK.1 hW 26 (by omega) laym_26 rfl (by decide) hS hAr (fl + j) (Int.natCast_add fl j).symm (by omega) d_M_connect_81 (fun H locs hW hS => ?_)
        refine lv_iinc (k := 0) (v := J (((j + 1 : Nat) : Int))) (lv' := [(3, .int (J (((j + 1 : Nat) : Int)))), (2, .int (J ((fl : Int)))), (1, .int (J (v1))), (0, .ref (z + 0))]) hx hb d_M_connect_82 hl rfl (by rw [Int.natCast_add j 1]; exact J_add _ _) (by decide) rfl (fun ls hl => ?_)
        refine lv_goto (tgt := 18) hx hb d_M_connect_85 (by decide) ?_
        refine ih (j + 1) (by omega) ls H locs (by rw [← cp_s]; exact hW) hS hl
    exact loop18 no 0 (by omega) ls _ _ (by rw [← cp_0]; exact hW) hS hl
  · skip
    refine lv_iload_n hx hb d_M_connect_9 rfl (lv_at hl 0 rfl) ?_
    exact y_retg hx hb hr hlocks hS hW ⟨fun _ => ⟨hv1, fun d hd => yr_o hd⟩, fun h => absurd (hv1.trans h) hz1⟩ d_M_connect_10

set_option maxHeartbeats 4000000 in
set_option maxRecDepth 100000 in
theorem c_M_outputPart (l : Launch) (G : yG) (z : Nat) (τ : yM) (hTb : mTb τ) (on : Nat) (hon : on < 2) (hov : 0 ≤ τ 13 on ∧ τ 13 on < 1000) (how : 0 ≤ τ 15 on ∧ τ 15 on ≤ 2472) (hoe : 0 ≤ τ 17 on ∧ τ 17 on < 2473) (what : Int) (hwh : 0 ≤ what ∧ what < 7) : Met l y_M_outputPart (Cond.code y_M_outputPart b_M_outputPart 5 (some .int) :: yT) ({ frames := 1, cells := 0, slots := 0, locals := 21 } : Room) (yP ycl G yLM 0 28 z τ (yK G) [.ref (z + 0), .int (J ((on : Int))), .int (J (what))]) (yQi (if what = 0 then τ 16 on else if what = 1 then eX (τ 17 on) else if what = 2 then eY (τ 17 on) else if what = 3 then τ 18 on else if what = 4 then τ 19 on else if what = 5 then eX (τ 13 on * 1281 + τ 15 on * 1369) else eY (τ 13 on * 1281 + τ 15 on * 1369))) 0 0 yN := by
  refine y_met (by decide +kernel) (Nat.le_of_ble_eq_true rfl) ?_
  intro p e s m below meth c ls hx hb hr hml hlocks hown hname hts hv hl
  have hA : ∀ w ∈ yT, w.before _ s = true := fun w h => hts w (List.mem_cons_of_mem _ h)
  have hl : lv_has ls 5 [(0, .ref (z + 0)), (1, .int (J ((on : Int)))), (2, .int (J (what)))] := hl
  obtain ⟨hW, hK⟩ := hv
  have hS : va_S yN s.heap s.heap [] := va_S.rf
  obtain ⟨c9, e_c9⟩ : ∃ q : Nat, (q : Int) = (τ 13 on * 1281 + τ 15 on * 1369) % 2473 := ⟨((τ 13 on * 1281 + τ 15 on * 1369) % 2473).toNat, by omega⟩
  obtain ⟨m9, e_m9⟩ : ∃ q : Nat, (q : Int) = τ 17 on := ⟨(τ 17 on).toNat, by omega⟩
  have e_m8 : (m9 : Int) = τ 17 on % 2473 := by omega
  by_cases hw0 : what = 0
  · skip
    subst hw0
    refine lv_aload_n hx hb d_M_outputPart_0 rfl (lv_at hl 0 rfl) ?_
    refine y_getr hx hb hA in_M hown hK.1 hW 0 (by omega) laym_0 rfl 15 (by decide) (hA _ k_fl_M_46) rfl d_M_outputPart_1 ?_
    refine lv_iload_n hx hb d_M_outputPart_4 rfl (lv_at hl 1 rfl) ?_
    refine y_iald hx hb hK.1 hW 13 (by omega) laym_13 rfl (by decide) on rfl (by omega) d_M_outputPart_5 ?_
    refine lv_aload_n hx hb d_M_outputPart_6 rfl (lv_at hl 0 rfl) ?_
    refine y_getr hx hb hA in_M hown hK.1 hW 0 (by omega) laym_0 rfl 17 (by decide) (hA _ k_fl_M_52) rfl d_M_outputPart_7 ?_
    refine lv_iload_n hx hb d_M_outputPart_10 rfl (lv_at hl 1 rfl) ?_
    refine y_iald hx hb hK.1 hW 15 (by omega) laym_15 rfl (by decide) on rfl (by omega) d_M_outputPart_11 ?_
    refine y_ci (y_runS (As := [.int (J (τ 13 on)), .int (J (τ 15 on))]) (rest := []) ⟨hx, hb, hml, hown, hts⟩ (c_M_cover l G (τ 13 on) (τ 15 on) (by omega) (by omega)) 2 k_co_M_cover k_ml_M_171 k_st_M_cover k_in_M rfl rfl (by decide +kernel) ⟨Nat.le_of_ble_eq_true rfl, Nat.le_of_ble_eq_true rfl⟩ (yPs0 (yK_bl G) (yK_mv G) hK) rfl hl.1 rfl (Nat.le_of_ble_eq_true rfl) d_M_outputPart_12 ⟨Nat.zero_le _, Nat.zero_le _⟩) hS hW (fun H locs hW hS => ?_)
    refine lv_istore_n (lv' := [(3, .int (J (((τ 13 on) * 1281 + (τ 15 on) * 1369) % 2473))), (0, .ref (z + 0)), (1, .int (J ((on : Int)))), (2, .int (J (0)))]) hx hb d_M_outputPart_15 rfl hl (by decide) rfl (fun ls hl => ?_)
    refine lv_iload_n hx hb d_M_outputPart_16 rfl (lv_at hl 3 rfl) ?_
    refine y_if_ne (tgt := 29) hx hb d_M_outputPart_17 (by decide) ⟨by omega, by omega⟩ (fun hc1 => absurd hc1 (by decide)) (fun hc1 => ?_)
    refine lv_aload_n hx hb d_M_outputPart_20 rfl (lv_at hl 1 rfl) ?_
    refine y_getr hx hb hA in_M hown hK.1 hW 0 (by omega) laym_0 rfl 18 (by decide) (hA _ k_fl_M_55) rfl d_M_outputPart_21 ?_
    refine lv_iload_n hx hb d_M_outputPart_24 rfl (lv_at hl 2 rfl) ?_
    refine y_iald hx hb hK.1 hW 16 (by omega) laym_16 rfl (by decide) on rfl (by omega) d_M_outputPart_25 ?_
    refine lv_goto (tgt := 49) hx hb d_M_outputPart_26 (by decide) ?_
    refine lv_istore (lv' := [(4, .int (J (τ 16 on))), (3, .int (J (((τ 13 on) * 1281 + (τ 15 on) * 1369) % 2473))), (0, .ref (z + 0)), (1, .int (J ((on : Int)))), (2, .int (J (0)))]) hx hb d_M_outputPart_49 hl (by decide) rfl (fun ls hl => ?_)
    refine lv_iload_n hx hb d_M_outputPart_51 rfl (lv_at hl 4 rfl) ?_
    refine lv_iconst (v := J (1)) hx hb d_M_outputPart_52 rfl ?_
    refine y_icmp_ne (tgt := 70) hx hb d_M_outputPart_53 (by decide) ⟨by omega, by omega⟩ ⟨by omega, by omega⟩ (fun hc2 => ?_) (fun hc2 => absurd hc2 (by decide))
    refine lv_iload_n hx hb d_M_outputPart_70 rfl (lv_at hl 4 rfl) ?_
    refine lv_iconst (v := J (2)) hx hb d_M_outputPart_71 rfl ?_
    refine y_icmp_ne (tgt := 89) hx hb d_M_outputPart_72 (by decide) ⟨by omega, by omega⟩ ⟨by omega, by omega⟩ (fun hc3 => ?_) (fun hc3 => absurd hc3 (by decide))
    refine lv_iload_n hx hb d_M_outputPart_89 rfl (lv_at hl 4 rfl) ?_
    refine lv_iconst (v := J (5)) hx hb d_M_outputPart_90 rfl ?_
    refine y_icmp_ne (tgt := 103) hx hb d_M_outputPart_91 (by decide) ⟨by omega, by omega⟩ ⟨by omega, by omega⟩ (fun hc4 => ?_) (fun hc4 => absurd hc4 (by decide))
    refine lv_iload_n hx hb d_M_outputPart_103 rfl (lv_at hl 4 rfl) ?_
    refine lv_bipush (v := J (6)) hx hb d_M_outputPart_104 (by decide) ?_
    refine y_icmp_ne (tgt := 118) hx hb d_M_outputPart_106 (by decide) ⟨by omega, by omega⟩ ⟨by omega, by omega⟩ (fun hc5 => ?_) (fun hc5 => absurd hc5 (by decide))
    refine lv_iload hx hb d_M_outputPart_118 (lv_at hl 0 rfl) ?_
    exact y_reti hx hb hr hlocks hS rfl d_M_outputPart_120
  by_cases hw1 : what = 1
  · skip
    subst hw1
    refine lv_aload_n hx hb d_M_outputPart_0 rfl (lv_at hl 0 rfl) ?_
    refine y_getr hx hb hA in_M hown hK.1 hW 0 (by omega) laym_0 rfl 15 (by decide) (hA _ k_fl_M_46) rfl d_M_outputPart_1 ?_
    refine lv_iload_n hx hb d_M_outputPart_4 rfl (lv_at hl 1 rfl) ?_
    refine y_iald hx hb hK.1 hW 13 (by omega) laym_13 rfl (by decide) on rfl (by omega) d_M_outputPart_5 ?_
    refine lv_aload_n hx hb d_M_outputPart_6 rfl (lv_at hl 0 rfl) ?_
    refine y_getr hx hb hA in_M hown hK.1 hW 0 (by omega) laym_0 rfl 17 (by decide) (hA _ k_fl_M_52) rfl d_M_outputPart_7 ?_
    refine lv_iload_n hx hb d_M_outputPart_10 rfl (lv_at hl 1 rfl) ?_
    refine y_iald hx hb hK.1 hW 15 (by omega) laym_15 rfl (by decide) on rfl (by omega) d_M_outputPart_11 ?_
    refine y_ci (y_runS (As := [.int (J (τ 13 on)), .int (J (τ 15 on))]) (rest := []) ⟨hx, hb, hml, hown, hts⟩ (c_M_cover l G (τ 13 on) (τ 15 on) (by omega) (by omega)) 2 k_co_M_cover k_ml_M_171 k_st_M_cover k_in_M rfl rfl (by decide +kernel) ⟨Nat.le_of_ble_eq_true rfl, Nat.le_of_ble_eq_true rfl⟩ (yPs0 (yK_bl G) (yK_mv G) hK) rfl hl.1 rfl (Nat.le_of_ble_eq_true rfl) d_M_outputPart_12 ⟨Nat.zero_le _, Nat.zero_le _⟩) hS hW (fun H locs hW hS => ?_)
    refine lv_istore_n (lv' := [(3, .int (J (((τ 13 on) * 1281 + (τ 15 on) * 1369) % 2473))), (0, .ref (z + 0)), (1, .int (J ((on : Int)))), (2, .int (J (1)))]) hx hb d_M_outputPart_15 rfl hl (by decide) rfl (fun ls hl => ?_)
    refine lv_iload_n hx hb d_M_outputPart_16 rfl (lv_at hl 3 rfl) ?_
    refine y_if_ne (tgt := 29) hx hb d_M_outputPart_17 (by decide) ⟨by omega, by omega⟩ (fun hc6 => ?_) (fun hc6 => absurd hc6 (by decide))
    refine lv_iload_n hx hb d_M_outputPart_29 rfl (lv_at hl 3 rfl) ?_
    refine lv_iconst (v := J (3)) hx hb d_M_outputPart_30 rfl ?_
    refine y_icmp_ne (tgt := 43) hx hb d_M_outputPart_31 (by decide) ⟨by omega, by omega⟩ ⟨by omega, by omega⟩ (fun hc7 => ?_) (fun hc7 => absurd hc7 (by decide))
    refine lv_aload_n hx hb d_M_outputPart_43 rfl (lv_at hl 1 rfl) ?_
    refine y_getr hx hb hA in_M hown hK.1 hW 0 (by omega) laym_0 rfl 21 (by decide) (hA _ k_fl_M_64) rfl d_M_outputPart_44 ?_
    refine lv_iload_n hx hb d_M_outputPart_47 rfl (lv_at hl 2 rfl) ?_
    refine y_iald hx hb hK.1 hW 19 (by omega) laym_19 rfl (by decide) on rfl (by omega) d_M_outputPart_48 ?_
    refine lv_istore (lv' := [(4, .int (J (τ 19 on))), (3, .int (J (((τ 13 on) * 1281 + (τ 15 on) * 1369) % 2473))), (0, .ref (z + 0)), (1, .int (J ((on : Int)))), (2, .int (J (1)))]) hx hb d_M_outputPart_49 hl (by decide) rfl (fun ls hl => ?_)
    refine lv_iload_n hx hb d_M_outputPart_51 rfl (lv_at hl 4 rfl) ?_
    refine lv_iconst (v := J (1)) hx hb d_M_outputPart_52 rfl ?_
    refine y_icmp_ne (tgt := 70) hx hb d_M_outputPart_53 (by decide) ⟨by omega, by omega⟩ ⟨by omega, by omega⟩ (fun hc8 => absurd hc8 (by decide)) (fun hc8 => ?_)
    refine lv_aload_n hx hb d_M_outputPart_56 rfl (lv_at hl 2 rfl) ?_
    refine y_getr hx hb hA in_M hown hK.1 hW 0 (by omega) laym_0 rfl 0 (by decide) (hA _ k_fl_M_7) rfl d_M_outputPart_57 ?_
    refine lv_aload_n hx hb d_M_outputPart_60 rfl (lv_at hl 2 rfl) ?_
    refine y_getr hx hb hA in_M hown hK.1 hW 0 (by omega) laym_0 rfl 19 (by decide) (hA _ k_fl_M_58) rfl d_M_outputPart_61 ?_
    refine lv_iload_n hx hb d_M_outputPart_64 rfl (lv_at hl 3 rfl) ?_
    refine y_iald hx hb hK.1 hW 17 (by omega) laym_17 rfl (by decide) on rfl (by omega) d_M_outputPart_65 ?_
    refine y_iald hx hb hK.1 hW 1 (by omega) laym_1 rfl (by decide) m9 (by omega) (by omega) d_M_outputPart_66 ?_
    refine lv_goto (tgt := 120) hx hb d_M_outputPart_67 (by decide) ?_
    rw [mT_x hTb e_m8]
    exact y_reti hx hb hr hlocks hS rfl d_M_outputPart_120
  by_cases hw2 : what = 2
  · skip
    subst hw2
    refine lv_aload_n hx hb d_M_outputPart_0 rfl (lv_at hl 0 rfl) ?_
    refine y_getr hx hb hA in_M hown hK.1 hW 0 (by omega) laym_0 rfl 15 (by decide) (hA _ k_fl_M_46) rfl d_M_outputPart_1 ?_
    refine lv_iload_n hx hb d_M_outputPart_4 rfl (lv_at hl 1 rfl) ?_
    refine y_iald hx hb hK.1 hW 13 (by omega) laym_13 rfl (by decide) on rfl (by omega) d_M_outputPart_5 ?_
    refine lv_aload_n hx hb d_M_outputPart_6 rfl (lv_at hl 0 rfl) ?_
    refine y_getr hx hb hA in_M hown hK.1 hW 0 (by omega) laym_0 rfl 17 (by decide) (hA _ k_fl_M_52) rfl d_M_outputPart_7 ?_
    refine lv_iload_n hx hb d_M_outputPart_10 rfl (lv_at hl 1 rfl) ?_
    refine y_iald hx hb hK.1 hW 15 (by omega) laym_15 rfl (by decide) on rfl (by omega) d_M_outputPart_11 ?_
    refine y_ci (y_runS (As := [.int (J (τ 13 on)), .int (J (τ 15 on))]) (rest := []) ⟨hx, hb, hml, hown, hts⟩ (c_M_cover l G (τ 13 on) (τ 15 on) (by omega) (by omega)) 2 k_co_M_cover k_ml_M_171 k_st_M_cover k_in_M rfl rfl (by decide +kernel) ⟨Nat.le_of_ble_eq_true rfl, Nat.le_of_ble_eq_true rfl⟩ (yPs0 (yK_bl G) (yK_mv G) hK) rfl hl.1 rfl (Nat.le_of_ble_eq_true rfl) d_M_outputPart_12 ⟨Nat.zero_le _, Nat.zero_le _⟩) hS hW (fun H locs hW hS => ?_)
    refine lv_istore_n (lv' := [(3, .int (J (((τ 13 on) * 1281 + (τ 15 on) * 1369) % 2473))), (0, .ref (z + 0)), (1, .int (J ((on : Int)))), (2, .int (J (2)))]) hx hb d_M_outputPart_15 rfl hl (by decide) rfl (fun ls hl => ?_)
    refine lv_iload_n hx hb d_M_outputPart_16 rfl (lv_at hl 3 rfl) ?_
    refine y_if_ne (tgt := 29) hx hb d_M_outputPart_17 (by decide) ⟨by omega, by omega⟩ (fun hc9 => ?_) (fun hc9 => absurd hc9 (by decide))
    refine lv_iload_n hx hb d_M_outputPart_29 rfl (lv_at hl 3 rfl) ?_
    refine lv_iconst (v := J (3)) hx hb d_M_outputPart_30 rfl ?_
    refine y_icmp_ne (tgt := 43) hx hb d_M_outputPart_31 (by decide) ⟨by omega, by omega⟩ ⟨by omega, by omega⟩ (fun hc10 => ?_) (fun hc10 => absurd hc10 (by decide))
    refine lv_aload_n hx hb d_M_outputPart_43 rfl (lv_at hl 1 rfl) ?_
    refine y_getr hx hb hA in_M hown hK.1 hW 0 (by omega) laym_0 rfl 21 (by decide) (hA _ k_fl_M_64) rfl d_M_outputPart_44 ?_
    refine lv_iload_n hx hb d_M_outputPart_47 rfl (lv_at hl 2 rfl) ?_
    refine y_iald hx hb hK.1 hW 19 (by omega) laym_19 rfl (by decide) on rfl (by omega) d_M_outputPart_48 ?_
    refine lv_istore (lv' := [(4, .int (J (τ 19 on))), (3, .int (J (((τ 13 on) * 1281 + (τ 15 on) * 1369) % 2473))), (0, .ref (z + 0)), (1, .int (J ((on : Int)))), (2, .int (J (2)))]) hx hb d_M_outputPart_49 hl (by decide) rfl (fun ls hl => ?_)
    refine lv_iload_n hx hb d_M_outputPart_51 rfl (lv_at hl 4 rfl) ?_
    refine lv_iconst (v := J (1)) hx hb d_M_outputPart_52 rfl ?_
    refine y_icmp_ne (tgt := 70) hx hb d_M_outputPart_53 (by decide) ⟨by omega, by omega⟩ ⟨by omega, by omega⟩ (fun hc11 => ?_) (fun hc11 => absurd hc11 (by decide))
    refine lv_iload_n hx hb d_M_outputPart_70 rfl (lv_at hl 4 rfl) ?_
    refine lv_iconst (v := J (2)) hx hb d_M_outputPart_71 rfl ?_
    refine y_icmp_ne (tgt := 89) hx hb d_M_outputPart_72 (by decide) ⟨by omega, by omega⟩ ⟨by omega, by omega⟩ (fun hc12 => absurd hc12 (by decide)) (fun hc12 => ?_)
    refine lv_aload_n hx hb d_M_outputPart_75 rfl (lv_at hl 2 rfl) ?_
    refine y_getr hx hb hA in_M hown hK.1 hW 0 (by omega) laym_0 rfl 1 (by decide) (hA _ k_fl_M_13) rfl d_M_outputPart_76 ?_
    refine lv_aload_n hx hb d_M_outputPart_79 rfl (lv_at hl 2 rfl) ?_
    refine y_getr hx hb hA in_M hown hK.1 hW 0 (by omega) laym_0 rfl 19 (by decide) (hA _ k_fl_M_58) rfl d_M_outputPart_80 ?_
    refine lv_iload_n hx hb d_M_outputPart_83 rfl (lv_at hl 3 rfl) ?_
    refine y_iald hx hb hK.1 hW 17 (by omega) laym_17 rfl (by decide) on rfl (by omega) d_M_outputPart_84 ?_
    refine y_iald hx hb hK.1 hW 2 (by omega) laym_2 rfl (by decide) m9 (by omega) (by omega) d_M_outputPart_85 ?_
    refine lv_goto (tgt := 120) hx hb d_M_outputPart_86 (by decide) ?_
    rw [mT_y hTb e_m8]
    exact y_reti hx hb hr hlocks hS rfl d_M_outputPart_120
  by_cases hw3 : what = 3
  · skip
    subst hw3
    refine lv_aload_n hx hb d_M_outputPart_0 rfl (lv_at hl 0 rfl) ?_
    refine y_getr hx hb hA in_M hown hK.1 hW 0 (by omega) laym_0 rfl 15 (by decide) (hA _ k_fl_M_46) rfl d_M_outputPart_1 ?_
    refine lv_iload_n hx hb d_M_outputPart_4 rfl (lv_at hl 1 rfl) ?_
    refine y_iald hx hb hK.1 hW 13 (by omega) laym_13 rfl (by decide) on rfl (by omega) d_M_outputPart_5 ?_
    refine lv_aload_n hx hb d_M_outputPart_6 rfl (lv_at hl 0 rfl) ?_
    refine y_getr hx hb hA in_M hown hK.1 hW 0 (by omega) laym_0 rfl 17 (by decide) (hA _ k_fl_M_52) rfl d_M_outputPart_7 ?_
    refine lv_iload_n hx hb d_M_outputPart_10 rfl (lv_at hl 1 rfl) ?_
    refine y_iald hx hb hK.1 hW 15 (by omega) laym_15 rfl (by decide) on rfl (by omega) d_M_outputPart_11 ?_
    refine y_ci (y_runS (As := [.int (J (τ 13 on)), .int (J (τ 15 on))]) (rest := []) ⟨hx, hb, hml, hown, hts⟩ (c_M_cover l G (τ 13 on) (τ 15 on) (by omega) (by omega)) 2 k_co_M_cover k_ml_M_171 k_st_M_cover k_in_M rfl rfl (by decide +kernel) ⟨Nat.le_of_ble_eq_true rfl, Nat.le_of_ble_eq_true rfl⟩ (yPs0 (yK_bl G) (yK_mv G) hK) rfl hl.1 rfl (Nat.le_of_ble_eq_true rfl) d_M_outputPart_12 ⟨Nat.zero_le _, Nat.zero_le _⟩) hS hW (fun H locs hW hS => ?_)
    refine lv_istore_n (lv' := [(3, .int (J (((τ 13 on) * 1281 + (τ 15 on) * 1369) % 2473))), (0, .ref (z + 0)), (1, .int (J ((on : Int)))), (2, .int (J (3)))]) hx hb d_M_outputPart_15 rfl hl (by decide) rfl (fun ls hl => ?_)
    refine lv_iload_n hx hb d_M_outputPart_16 rfl (lv_at hl 3 rfl) ?_
    refine y_if_ne (tgt := 29) hx hb d_M_outputPart_17 (by decide) ⟨by omega, by omega⟩ (fun hc13 => ?_) (fun hc13 => absurd hc13 (by decide))
    refine lv_iload_n hx hb d_M_outputPart_29 rfl (lv_at hl 3 rfl) ?_
    refine lv_iconst (v := J (3)) hx hb d_M_outputPart_30 rfl ?_
    refine y_icmp_ne (tgt := 43) hx hb d_M_outputPart_31 (by decide) ⟨by omega, by omega⟩ ⟨by omega, by omega⟩ (fun hc14 => absurd hc14 (by decide)) (fun hc14 => ?_)
    refine lv_aload_n hx hb d_M_outputPart_34 rfl (lv_at hl 1 rfl) ?_
    refine y_getr hx hb hA in_M hown hK.1 hW 0 (by omega) laym_0 rfl 20 (by decide) (hA _ k_fl_M_61) rfl d_M_outputPart_35 ?_
    refine lv_iload_n hx hb d_M_outputPart_38 rfl (lv_at hl 2 rfl) ?_
    refine y_iald hx hb hK.1 hW 18 (by omega) laym_18 rfl (by decide) on rfl (by omega) d_M_outputPart_39 ?_
    refine lv_goto (tgt := 49) hx hb d_M_outputPart_40 (by decide) ?_
    refine lv_istore (lv' := [(4, .int (J (τ 18 on))), (3, .int (J (((τ 13 on) * 1281 + (τ 15 on) * 1369) % 2473))), (0, .ref (z + 0)), (1, .int (J ((on : Int)))), (2, .int (J (3)))]) hx hb d_M_outputPart_49 hl (by decide) rfl (fun ls hl => ?_)
    refine lv_iload_n hx hb d_M_outputPart_51 rfl (lv_at hl 4 rfl) ?_
    refine lv_iconst (v := J (1)) hx hb d_M_outputPart_52 rfl ?_
    refine y_icmp_ne (tgt := 70) hx hb d_M_outputPart_53 (by decide) ⟨by omega, by omega⟩ ⟨by omega, by omega⟩ (fun hc15 => ?_) (fun hc15 => absurd hc15 (by decide))
    refine lv_iload_n hx hb d_M_outputPart_70 rfl (lv_at hl 4 rfl) ?_
    refine lv_iconst (v := J (2)) hx hb d_M_outputPart_71 rfl ?_
    refine y_icmp_ne (tgt := 89) hx hb d_M_outputPart_72 (by decide) ⟨by omega, by omega⟩ ⟨by omega, by omega⟩ (fun hc16 => ?_) (fun hc16 => absurd hc16 (by decide))
    refine lv_iload_n hx hb d_M_outputPart_89 rfl (lv_at hl 4 rfl) ?_
    refine lv_iconst (v := J (5)) hx hb d_M_outputPart_90 rfl ?_
    refine y_icmp_ne (tgt := 103) hx hb d_M_outputPart_91 (by decide) ⟨by omega, by omega⟩ ⟨by omega, by omega⟩ (fun hc17 => ?_) (fun hc17 => absurd hc17 (by decide))
    refine lv_iload_n hx hb d_M_outputPart_103 rfl (lv_at hl 4 rfl) ?_
    refine lv_bipush (v := J (6)) hx hb d_M_outputPart_104 (by decide) ?_
    refine y_icmp_ne (tgt := 118) hx hb d_M_outputPart_106 (by decide) ⟨by omega, by omega⟩ ⟨by omega, by omega⟩ (fun hc18 => ?_) (fun hc18 => absurd hc18 (by decide))
    refine lv_iload hx hb d_M_outputPart_118 (lv_at hl 0 rfl) ?_
    exact y_reti hx hb hr hlocks hS rfl d_M_outputPart_120
  by_cases hw4 : what = 4
  · skip
    subst hw4
    refine lv_aload_n hx hb d_M_outputPart_0 rfl (lv_at hl 0 rfl) ?_
    refine y_getr hx hb hA in_M hown hK.1 hW 0 (by omega) laym_0 rfl 15 (by decide) (hA _ k_fl_M_46) rfl d_M_outputPart_1 ?_
    refine lv_iload_n hx hb d_M_outputPart_4 rfl (lv_at hl 1 rfl) ?_
    refine y_iald hx hb hK.1 hW 13 (by omega) laym_13 rfl (by decide) on rfl (by omega) d_M_outputPart_5 ?_
    refine lv_aload_n hx hb d_M_outputPart_6 rfl (lv_at hl 0 rfl) ?_
    refine y_getr hx hb hA in_M hown hK.1 hW 0 (by omega) laym_0 rfl 17 (by decide) (hA _ k_fl_M_52) rfl d_M_outputPart_7 ?_
    refine lv_iload_n hx hb d_M_outputPart_10 rfl (lv_at hl 1 rfl) ?_
    refine y_iald hx hb hK.1 hW 15 (by omega) laym_15 rfl (by decide) on rfl (by omega) d_M_outputPart_11 ?_
    refine y_ci (y_runS (As := [.int (J (τ 13 on)), .int (J (τ 15 on))]) (rest := []) ⟨hx, hb, hml, hown, hts⟩ (c_M_cover l G (τ 13 on) (τ 15 on) (by omega) (by omega)) 2 k_co_M_cover k_ml_M_171 k_st_M_cover k_in_M rfl rfl (by decide +kernel) ⟨Nat.le_of_ble_eq_true rfl, Nat.le_of_ble_eq_true rfl⟩ (yPs0 (yK_bl G) (yK_mv G) hK) rfl hl.1 rfl (Nat.le_of_ble_eq_true rfl) d_M_outputPart_12 ⟨Nat.zero_le _, Nat.zero_le _⟩) hS hW (fun H locs hW hS => ?_)
    refine lv_istore_n (lv' := [(3, .int (J (((τ 13 on) * 1281 + (τ 15 on) * 1369) % 2473))), (0, .ref (z + 0)), (1, .int (J ((on : Int)))), (2, .int (J (4)))]) hx hb d_M_outputPart_15 rfl hl (by decide) rfl (fun ls hl => ?_)
    refine lv_iload_n hx hb d_M_outputPart_16 rfl (lv_at hl 3 rfl) ?_
    refine y_if_ne (tgt := 29) hx hb d_M_outputPart_17 (by decide) ⟨by omega, by omega⟩ (fun hc19 => ?_) (fun hc19 => absurd hc19 (by decide))
    refine lv_iload_n hx hb d_M_outputPart_29 rfl (lv_at hl 3 rfl) ?_
    refine lv_iconst (v := J (3)) hx hb d_M_outputPart_30 rfl ?_
    refine y_icmp_ne (tgt := 43) hx hb d_M_outputPart_31 (by decide) ⟨by omega, by omega⟩ ⟨by omega, by omega⟩ (fun hc20 => ?_) (fun hc20 => absurd hc20 (by decide))
    refine lv_aload_n hx hb d_M_outputPart_43 rfl (lv_at hl 1 rfl) ?_
    refine y_getr hx hb hA in_M hown hK.1 hW 0 (by omega) laym_0 rfl 21 (by decide) (hA _ k_fl_M_64) rfl d_M_outputPart_44 ?_
    refine lv_iload_n hx hb d_M_outputPart_47 rfl (lv_at hl 2 rfl) ?_
    refine y_iald hx hb hK.1 hW 19 (by omega) laym_19 rfl (by decide) on rfl (by omega) d_M_outputPart_48 ?_
    refine lv_istore (lv' := [(4, .int (J (τ 19 on))), (3, .int (J (((τ 13 on) * 1281 + (τ 15 on) * 1369) % 2473))), (0, .ref (z + 0)), (1, .int (J ((on : Int)))), (2, .int (J (4)))]) hx hb d_M_outputPart_49 hl (by decide) rfl (fun ls hl => ?_)
    refine lv_iload_n hx hb d_M_outputPart_51 rfl (lv_at hl 4 rfl) ?_
    refine lv_iconst (v := J (1)) hx hb d_M_outputPart_52 rfl ?_
    refine y_icmp_ne (tgt := 70) hx hb d_M_outputPart_53 (by decide) ⟨by omega, by omega⟩ ⟨by omega, by omega⟩ (fun hc21 => ?_) (fun hc21 => absurd hc21 (by decide))
    refine lv_iload_n hx hb d_M_outputPart_70 rfl (lv_at hl 4 rfl) ?_
    refine lv_iconst (v := J (2)) hx hb d_M_outputPart_71 rfl ?_
    refine y_icmp_ne (tgt := 89) hx hb d_M_outputPart_72 (by decide) ⟨by omega, by omega⟩ ⟨by omega, by omega⟩ (fun hc22 => ?_) (fun hc22 => absurd hc22 (by decide))
    refine lv_iload_n hx hb d_M_outputPart_89 rfl (lv_at hl 4 rfl) ?_
    refine lv_iconst (v := J (5)) hx hb d_M_outputPart_90 rfl ?_
    refine y_icmp_ne (tgt := 103) hx hb d_M_outputPart_91 (by decide) ⟨by omega, by omega⟩ ⟨by omega, by omega⟩ (fun hc23 => ?_) (fun hc23 => absurd hc23 (by decide))
    refine lv_iload_n hx hb d_M_outputPart_103 rfl (lv_at hl 4 rfl) ?_
    refine lv_bipush (v := J (6)) hx hb d_M_outputPart_104 (by decide) ?_
    refine y_icmp_ne (tgt := 118) hx hb d_M_outputPart_106 (by decide) ⟨by omega, by omega⟩ ⟨by omega, by omega⟩ (fun hc24 => ?_) (fun hc24 => absurd hc24 (by decide))
    refine lv_iload hx hb d_M_outputPart_118 (lv_at hl 0 rfl) ?_
    exact y_reti hx hb hr hlocks hS rfl d_M_outputPart_120
  by_cases hw5 : what = 5
  · skip
    subst hw5
    refine lv_aload_n hx hb d_M_outputPart_0 rfl (lv_at hl 0 rfl) ?_
    refine y_getr hx hb hA in_M hown hK.1 hW 0 (by omega) laym_0 rfl 15 (by decide) (hA _ k_fl_M_46) rfl d_M_outputPart_1 ?_
    refine lv_iload_n hx hb d_M_outputPart_4 rfl (lv_at hl 1 rfl) ?_
    refine y_iald hx hb hK.1 hW 13 (by omega) laym_13 rfl (by decide) on rfl (by omega) d_M_outputPart_5 ?_
    refine lv_aload_n hx hb d_M_outputPart_6 rfl (lv_at hl 0 rfl) ?_
    refine y_getr hx hb hA in_M hown hK.1 hW 0 (by omega) laym_0 rfl 17 (by decide) (hA _ k_fl_M_52) rfl d_M_outputPart_7 ?_
    refine lv_iload_n hx hb d_M_outputPart_10 rfl (lv_at hl 1 rfl) ?_
    refine y_iald hx hb hK.1 hW 15 (by omega) laym_15 rfl (by decide) on rfl (by omega) d_M_outputPart_11 ?_
    refine y_ci (y_runS (As := [.int (J (τ 13 on)), .int (J (τ 15 on))]) (rest := []) ⟨hx, hb, hml, hown, hts⟩ (c_M_cover l G (τ 13 on) (τ 15 on) (by omega) (by omega)) 2 k_co_M_cover k_ml_M_171 k_st_M_cover k_in_M rfl rfl (by decide +kernel) ⟨Nat.le_of_ble_eq_true rfl, Nat.le_of_ble_eq_true rfl⟩ (yPs0 (yK_bl G) (yK_mv G) hK) rfl hl.1 rfl (Nat.le_of_ble_eq_true rfl) d_M_outputPart_12 ⟨Nat.zero_le _, Nat.zero_le _⟩) hS hW (fun H locs hW hS => ?_)
    refine lv_istore_n (lv' := [(3, .int (J (((τ 13 on) * 1281 + (τ 15 on) * 1369) % 2473))), (0, .ref (z + 0)), (1, .int (J ((on : Int)))), (2, .int (J (5)))]) hx hb d_M_outputPart_15 rfl hl (by decide) rfl (fun ls hl => ?_)
    refine lv_iload_n hx hb d_M_outputPart_16 rfl (lv_at hl 3 rfl) ?_
    refine y_if_ne (tgt := 29) hx hb d_M_outputPart_17 (by decide) ⟨by omega, by omega⟩ (fun hc25 => ?_) (fun hc25 => absurd hc25 (by decide))
    refine lv_iload_n hx hb d_M_outputPart_29 rfl (lv_at hl 3 rfl) ?_
    refine lv_iconst (v := J (3)) hx hb d_M_outputPart_30 rfl ?_
    refine y_icmp_ne (tgt := 43) hx hb d_M_outputPart_31 (by decide) ⟨by omega, by omega⟩ ⟨by omega, by omega⟩ (fun hc26 => ?_) (fun hc26 => absurd hc26 (by decide))
    refine lv_aload_n hx hb d_M_outputPart_43 rfl (lv_at hl 1 rfl) ?_
    refine y_getr hx hb hA in_M hown hK.1 hW 0 (by omega) laym_0 rfl 21 (by decide) (hA _ k_fl_M_64) rfl d_M_outputPart_44 ?_
    refine lv_iload_n hx hb d_M_outputPart_47 rfl (lv_at hl 2 rfl) ?_
    refine y_iald hx hb hK.1 hW 19 (by omega) laym_19 rfl (by decide) on rfl (by omega) d_M_outputPart_48 ?_
    refine lv_istore (lv' := [(4, .int (J (τ 19 on))), (3, .int (J (((τ 13 on) * 1281 + (τ 15 on) * 1369) % 2473))), (0, .ref (z + 0)), (1, .int (J ((on : Int)))), (2, .int (J (5)))]) hx hb d_M_outputPart_49 hl (by decide) rfl (fun ls hl => ?_)
    refine lv_iload_n hx hb d_M_outputPart_51 rfl (lv_at hl 4 rfl) ?_
    refine lv_iconst (v := J (1)) hx hb d_M_outputPart_52 rfl ?_
    refine y_icmp_ne (tgt := 70) hx hb d_M_outputPart_53 (by decide) ⟨by omega, by omega⟩ ⟨by omega, by omega⟩ (fun hc27 => ?_) (fun hc27 => absurd hc27 (by decide))
    refine lv_iload_n hx hb d_M_outputPart_70 rfl (lv_at hl 4 rfl) ?_
    refine lv_iconst (v := J (2)) hx hb d_M_outputPart_71 rfl ?_
    refine y_icmp_ne (tgt := 89) hx hb d_M_outputPart_72 (by decide) ⟨by omega, by omega⟩ ⟨by omega, by omega⟩ (fun hc28 => ?_) (fun hc28 => absurd hc28 (by decide))
    refine lv_iload_n hx hb d_M_outputPart_89 rfl (lv_at hl 4 rfl) ?_
    refine lv_iconst (v := J (5)) hx hb d_M_outputPart_90 rfl ?_
    refine y_icmp_ne (tgt := 103) hx hb d_M_outputPart_91 (by decide) ⟨by omega, by omega⟩ ⟨by omega, by omega⟩ (fun hc29 => absurd hc29 (by decide)) (fun hc29 => ?_)
    refine lv_aload_n hx hb d_M_outputPart_94 rfl (lv_at hl 2 rfl) ?_
    refine y_getr hx hb hA in_M hown hK.1 hW 0 (by omega) laym_0 rfl 0 (by decide) (hA _ k_fl_M_7) rfl d_M_outputPart_95 ?_
    refine lv_iload_n hx hb d_M_outputPart_98 rfl (lv_at hl 1 rfl) ?_
    refine y_iald hx hb hK.1 hW 1 (by omega) laym_1 rfl (by decide) c9 (by omega) (by omega) d_M_outputPart_99 ?_
    refine lv_goto (tgt := 120) hx hb d_M_outputPart_100 (by decide) ?_
    rw [mT_x hTb e_c9]
    exact y_reti hx hb hr hlocks hS rfl d_M_outputPart_120
  have hw6 : what = 6 := by omega
  subst hw6
  refine lv_aload_n hx hb d_M_outputPart_0 rfl (lv_at hl 0 rfl) ?_
  refine y_getr hx hb hA in_M hown hK.1 hW 0 (by omega) laym_0 rfl 15 (by decide) (hA _ k_fl_M_46) rfl d_M_outputPart_1 ?_
  refine lv_iload_n hx hb d_M_outputPart_4 rfl (lv_at hl 1 rfl) ?_
  refine y_iald hx hb hK.1 hW 13 (by omega) laym_13 rfl (by decide) on rfl (by omega) d_M_outputPart_5 ?_
  refine lv_aload_n hx hb d_M_outputPart_6 rfl (lv_at hl 0 rfl) ?_
  refine y_getr hx hb hA in_M hown hK.1 hW 0 (by omega) laym_0 rfl 17 (by decide) (hA _ k_fl_M_52) rfl d_M_outputPart_7 ?_
  refine lv_iload_n hx hb d_M_outputPart_10 rfl (lv_at hl 1 rfl) ?_
  refine y_iald hx hb hK.1 hW 15 (by omega) laym_15 rfl (by decide) on rfl (by omega) d_M_outputPart_11 ?_
  refine y_ci (y_runS (As := [.int (J (τ 13 on)), .int (J (τ 15 on))]) (rest := []) ⟨hx, hb, hml, hown, hts⟩ (c_M_cover l G (τ 13 on) (τ 15 on) (by omega) (by omega)) 2 k_co_M_cover k_ml_M_171 k_st_M_cover k_in_M rfl rfl (by decide +kernel) ⟨Nat.le_of_ble_eq_true rfl, Nat.le_of_ble_eq_true rfl⟩ (yPs0 (yK_bl G) (yK_mv G) hK) rfl hl.1 rfl (Nat.le_of_ble_eq_true rfl) d_M_outputPart_12 ⟨Nat.zero_le _, Nat.zero_le _⟩) hS hW (fun H locs hW hS => ?_)
  refine lv_istore_n (lv' := [(3, .int (J (((τ 13 on) * 1281 + (τ 15 on) * 1369) % 2473))), (0, .ref (z + 0)), (1, .int (J ((on : Int)))), (2, .int (J (6)))]) hx hb d_M_outputPart_15 rfl hl (by decide) rfl (fun ls hl => ?_)
  refine lv_iload_n hx hb d_M_outputPart_16 rfl (lv_at hl 3 rfl) ?_
  refine y_if_ne (tgt := 29) hx hb d_M_outputPart_17 (by decide) ⟨by omega, by omega⟩ (fun hc30 => ?_) (fun hc30 => absurd hc30 (by decide))
  refine lv_iload_n hx hb d_M_outputPart_29 rfl (lv_at hl 3 rfl) ?_
  refine lv_iconst (v := J (3)) hx hb d_M_outputPart_30 rfl ?_
  refine y_icmp_ne (tgt := 43) hx hb d_M_outputPart_31 (by decide) ⟨by omega, by omega⟩ ⟨by omega, by omega⟩ (fun hc31 => ?_) (fun hc31 => absurd hc31 (by decide))
  refine lv_aload_n hx hb d_M_outputPart_43 rfl (lv_at hl 1 rfl) ?_
  refine y_getr hx hb hA in_M hown hK.1 hW 0 (by omega) laym_0 rfl 21 (by decide) (hA _ k_fl_M_64) rfl d_M_outputPart_44 ?_
  refine lv_iload_n hx hb d_M_outputPart_47 rfl (lv_at hl 2 rfl) ?_
  refine y_iald hx hb hK.1 hW 19 (by omega) laym_19 rfl (by decide) on rfl (by omega) d_M_outputPart_48 ?_
  refine lv_istore (lv' := [(4, .int (J (τ 19 on))), (3, .int (J (((τ 13 on) * 1281 + (τ 15 on) * 1369) % 2473))), (0, .ref (z + 0)), (1, .int (J ((on : Int)))), (2, .int (J (6)))]) hx hb d_M_outputPart_49 hl (by decide) rfl (fun ls hl => ?_)
  refine lv_iload_n hx hb d_M_outputPart_51 rfl (lv_at hl 4 rfl) ?_
  refine lv_iconst (v := J (1)) hx hb d_M_outputPart_52 rfl ?_
  refine y_icmp_ne (tgt := 70) hx hb d_M_outputPart_53 (by decide) ⟨by omega, by omega⟩ ⟨by omega, by omega⟩ (fun hc32 => ?_) (fun hc32 => absurd hc32 (by decide))
  refine lv_iload_n hx hb d_M_outputPart_70 rfl (lv_at hl 4 rfl) ?_
  refine lv_iconst (v := J (2)) hx hb d_M_outputPart_71 rfl ?_
  refine y_icmp_ne (tgt := 89) hx hb d_M_outputPart_72 (by decide) ⟨by omega, by omega⟩ ⟨by omega, by omega⟩ (fun hc33 => ?_) (fun hc33 => absurd hc33 (by decide))
  refine lv_iload_n hx hb d_M_outputPart_89 rfl (lv_at hl 4 rfl) ?_
  refine lv_iconst (v := J (5)) hx hb d_M_outputPart_90 rfl ?_
  refine y_icmp_ne (tgt := 103) hx hb d_M_outputPart_91 (by decide) ⟨by omega, by omega⟩ ⟨by omega, by omega⟩ (fun hc34 => ?_) (fun hc34 => absurd hc34 (by decide))
  refine lv_iload_n hx hb d_M_outputPart_103 rfl (lv_at hl 4 rfl) ?_
  refine lv_bipush (v := J (6)) hx hb d_M_outputPart_104 (by decide) ?_
  refine y_icmp_ne (tgt := 118) hx hb d_M_outputPart_106 (by decide) ⟨by omega, by omega⟩ ⟨by omega, by omega⟩ (fun hc35 => absurd hc35 (by decide)) (fun hc35 => ?_)
  refine lv_aload_n hx hb d_M_outputPart_109 rfl (lv_at hl 2 rfl) ?_
  refine y_getr hx hb hA in_M hown hK.1 hW 0 (by omega) laym_0 rfl 1 (by decide) (hA _ k_fl_M_13) rfl d_M_outputPart_110 ?_
  refine lv_iload_n hx hb d_M_outputPart_113 rfl (lv_at hl 1 rfl) ?_
  refine y_iald hx hb hK.1 hW 2 (by omega) laym_2 rfl (by decide) c9 (by omega) (by omega) d_M_outputPart_114 ?_
  refine lv_goto (tgt := 120) hx hb d_M_outputPart_115 (by decide) ?_
  rw [mT_y hTb e_c9]
  exact y_reti hx hb hr hlocks hS rfl d_M_outputPart_120
