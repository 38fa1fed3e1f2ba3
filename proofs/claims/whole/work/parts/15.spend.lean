/-! The way up from a leaf. -/
def pth (leaf : Nat) (p : Nat → Int) (c : Int) : Nat → Int
  | 0 => c
  | L + 1 => if leaf / 2 ^ L % 2 = 1 then eX (2409 * p L + 1499 * pth leaf p c L + 1 * ((L : Int) + 1)) else eX (2409 * pth leaf p c L + 1499 * p L + 1 * ((L : Int) + 1))
theorem pth_rng {leaf : Nat} {p : Nat → Int} {c : Int} (hc : 0 ≤ c ∧ c < 10009) : ∀ L, 0 ≤ pth leaf p c L ∧ pth leaf p c L < 10009
  | 0 => hc
  | L + 1 => by
    unfold pth
    split <;> exact eX_rng _
theorem pth_1 {leaf : Nat} {p : Nat → Int} {c : Int} {L : Nat} (h : leaf / 2 ^ L % 2 = 1) : pth leaf p c (L + 1) = eX (2409 * p L + 1499 * pth leaf p c L + 1 * ((L : Int) + 1)) := by
  unfold pth
  rw [if_pos h]
  cases L <;> rfl
theorem pth_0 {leaf : Nat} {p : Nat → Int} {c : Int} {L : Nat} (h : ¬ leaf / 2 ^ L % 2 = 1) : pth leaf p c (L + 1) = eX (2409 * pth leaf p c L + 1499 * p L + 1 * ((L : Int) + 1)) := by
  unfold pth
  rw [if_neg h]
  cases L <;> rfl

theorem d_P_isFieldNumber_0 : decode b_P_isFieldNumber 0 = .ok (.iload_n 0, 1) := by decide +kernel
theorem d_P_isFieldNumber_1 : decode b_P_isFieldNumber 1 = .ok (.ifCond .lt 14, 3) := by decide +kernel
theorem d_P_isFieldNumber_4 : decode b_P_isFieldNumber 4 = .ok (.iload_n 0, 1) := by decide +kernel
theorem d_P_isFieldNumber_5 : decode b_P_isFieldNumber 5 = .ok (.sipush 10009, 3) := by decide +kernel
theorem d_P_isFieldNumber_8 : decode b_P_isFieldNumber 8 = .ok (.if_icmp .ge 7, 3) := by decide +kernel
theorem d_P_isFieldNumber_11 : decode b_P_isFieldNumber 11 = .ok (.iconst 1, 1) := by decide +kernel
theorem d_P_isFieldNumber_12 : decode b_P_isFieldNumber 12 = .ok (.goto 4, 3) := by decide +kernel
theorem d_P_isFieldNumber_15 : decode b_P_isFieldNumber 15 = .ok (.iconst 0, 1) := by decide +kernel
theorem d_P_isFieldNumber_16 : decode b_P_isFieldNumber 16 = .ok (.ireturn, 1) := by decide +kernel
theorem d_P_isScalar_0 : decode b_P_isScalar 0 = .ok (.iload_n 0, 1) := by decide +kernel
theorem d_P_isScalar_1 : decode b_P_isScalar 1 = .ok (.ifCond .lt 14, 3) := by decide +kernel
theorem d_P_isScalar_4 : decode b_P_isScalar 4 = .ok (.iload_n 0, 1) := by decide +kernel
theorem d_P_isScalar_5 : decode b_P_isScalar 5 = .ok (.sipush 2473, 3) := by decide +kernel
theorem d_P_isScalar_8 : decode b_P_isScalar 8 = .ok (.if_icmp .ge 7, 3) := by decide +kernel
theorem d_P_isScalar_11 : decode b_P_isScalar 11 = .ok (.iconst 1, 1) := by decide +kernel
theorem d_P_isScalar_12 : decode b_P_isScalar 12 = .ok (.goto 4, 3) := by decide +kernel
theorem d_P_isScalar_15 : decode b_P_isScalar 15 = .ok (.iconst 0, 1) := by decide +kernel
theorem d_P_isScalar_16 : decode b_P_isScalar 16 = .ok (.ireturn, 1) := by decide +kernel
theorem d_P_isValue_0 : decode b_P_isValue 0 = .ok (.iload_n 0, 1) := by decide +kernel
theorem d_P_isValue_1 : decode b_P_isValue 1 = .ok (.ifCond .lt 14, 3) := by decide +kernel
theorem d_P_isValue_4 : decode b_P_isValue 4 = .ok (.iload_n 0, 1) := by decide +kernel
theorem d_P_isValue_5 : decode b_P_isValue 5 = .ok (.sipush 1000, 3) := by decide +kernel
theorem d_P_isValue_8 : decode b_P_isValue 8 = .ok (.if_icmp .ge 7, 3) := by decide +kernel
theorem d_P_isValue_11 : decode b_P_isValue 11 = .ok (.iconst 1, 1) := by decide +kernel
theorem d_P_isValue_12 : decode b_P_isValue 12 = .ok (.goto 4, 3) := by decide +kernel
theorem d_P_isValue_15 : decode b_P_isValue 15 = .ok (.iconst 0, 1) := by decide +kernel
theorem d_P_isValue_16 : decode b_P_isValue 16 = .ok (.ireturn, 1) := by decide +kernel
theorem d_Spend_fill_0 : decode b_Spend_fill 0 = .ok (.aload_n 0, 1) := by decide +kernel
theorem d_Spend_fill_1 : decode b_Spend_fill 1 = .ok (.iload 4, 2) := by decide +kernel
theorem d_Spend_fill_3 : decode b_Spend_fill 3 = .ok (.putfield 15, 3) := by decide +kernel
theorem d_Spend_fill_6 : decode b_Spend_fill 6 = .ok (.aload_n 0, 1) := by decide +kernel
theorem d_Spend_fill_7 : decode b_Spend_fill 7 = .ok (.aload_n 3, 1) := by decide +kernel
theorem d_Spend_fill_8 : decode b_Spend_fill 8 = .ok (.getfield 19, 3) := by decide +kernel
theorem d_Spend_fill_11 : decode b_Spend_fill 11 = .ok (.putfield 24, 3) := by decide +kernel
theorem d_Spend_fill_14 : decode b_Spend_fill 14 = .ok (.aload_n 0, 1) := by decide +kernel
theorem d_Spend_fill_15 : decode b_Spend_fill 15 = .ok (.aload_n 3, 1) := by decide +kernel
theorem d_Spend_fill_16 : decode b_Spend_fill 16 = .ok (.getfield 25, 3) := by decide +kernel
theorem d_Spend_fill_19 : decode b_Spend_fill 19 = .ok (.putfield 28, 3) := by decide +kernel
theorem d_Spend_fill_22 : decode b_Spend_fill 22 = .ok (.aload_n 0, 1) := by decide +kernel
theorem d_Spend_fill_23 : decode b_Spend_fill 23 = .ok (.aload_n 3, 1) := by decide +kernel
theorem d_Spend_fill_24 : decode b_Spend_fill 24 = .ok (.getfield 29, 3) := by decide +kernel
theorem d_Spend_fill_27 : decode b_Spend_fill 27 = .ok (.iload 4, 2) := by decide +kernel
theorem d_Spend_fill_29 : decode b_Spend_fill 29 = .ok (.iaload, 1) := by decide +kernel
theorem d_Spend_fill_30 : decode b_Spend_fill 30 = .ok (.putfield 32, 3) := by decide +kernel
theorem d_Spend_fill_33 : decode b_Spend_fill 33 = .ok (.aload_n 0, 1) := by decide +kernel
theorem d_Spend_fill_34 : decode b_Spend_fill 34 = .ok (.aload_n 3, 1) := by decide +kernel
theorem d_Spend_fill_35 : decode b_Spend_fill 35 = .ok (.getfield 35, 3) := by decide +kernel
theorem d_Spend_fill_38 : decode b_Spend_fill 38 = .ok (.iload 4, 2) := by decide +kernel
theorem d_Spend_fill_40 : decode b_Spend_fill 40 = .ok (.iaload, 1) := by decide +kernel
theorem d_Spend_fill_41 : decode b_Spend_fill 41 = .ok (.putfield 38, 3) := by decide +kernel
theorem d_Spend_fill_44 : decode b_Spend_fill 44 = .ok (.aload_n 0, 1) := by decide +kernel
theorem d_Spend_fill_45 : decode b_Spend_fill 45 = .ok (.aload_n 3, 1) := by decide +kernel
theorem d_Spend_fill_46 : decode b_Spend_fill 46 = .ok (.getfield 41, 3) := by decide +kernel
theorem d_Spend_fill_49 : decode b_Spend_fill 49 = .ok (.iload 4, 2) := by decide +kernel
theorem d_Spend_fill_51 : decode b_Spend_fill 51 = .ok (.iaload, 1) := by decide +kernel
theorem d_Spend_fill_52 : decode b_Spend_fill 52 = .ok (.putfield 44, 3) := by decide +kernel
theorem d_Spend_fill_55 : decode b_Spend_fill 55 = .ok (.aload_n 0, 1) := by decide +kernel
theorem d_Spend_fill_56 : decode b_Spend_fill 56 = .ok (.aload_n 2, 1) := by decide +kernel
theorem d_Spend_fill_57 : decode b_Spend_fill 57 = .ok (.invokevirtual 47, 3) := by decide +kernel
theorem d_Spend_fill_60 : decode b_Spend_fill 60 = .ok (.putfield 53, 3) := by decide +kernel
theorem d_Spend_fill_63 : decode b_Spend_fill 63 = .ok (.aload_n 2, 1) := by decide +kernel
theorem d_Spend_fill_64 : decode b_Spend_fill 64 = .ok (.iload 4, 2) := by decide +kernel
theorem d_Spend_fill_66 : decode b_Spend_fill 66 = .ok (.aload_n 0, 1) := by decide +kernel
theorem d_Spend_fill_67 : decode b_Spend_fill 67 = .ok (.getfield 9, 3) := by decide +kernel
theorem d_Spend_fill_70 : decode b_Spend_fill 70 = .ok (.invokevirtual 56, 3) := by decide +kernel
theorem d_Spend_fill_73 : decode b_Spend_fill 73 = .ok (.aload_n 0, 1) := by decide +kernel
theorem d_Spend_fill_74 : decode b_Spend_fill 74 = .ok (.iload 5, 2) := by decide +kernel
theorem d_Spend_fill_76 : decode b_Spend_fill 76 = .ok (.putfield 60, 3) := by decide +kernel
theorem d_Spend_fill_79 : decode b_Spend_fill 79 = .ok (.aload_n 0, 1) := by decide +kernel
theorem d_Spend_fill_80 : decode b_Spend_fill 80 = .ok (.aload_n 1, 1) := by decide +kernel
theorem d_Spend_fill_81 : decode b_Spend_fill 81 = .ok (.aload_n 0, 1) := by decide +kernel
theorem d_Spend_fill_82 : decode b_Spend_fill 82 = .ok (.getfield 32, 3) := by decide +kernel
theorem d_Spend_fill_85 : decode b_Spend_fill 85 = .ok (.iload 5, 2) := by decide +kernel
theorem d_Spend_fill_87 : decode b_Spend_fill 87 = .ok (.invokevirtual 63, 3) := by decide +kernel
theorem d_Spend_fill_90 : decode b_Spend_fill 90 = .ok (.putfield 69, 3) := by decide +kernel
theorem d_Spend_fill_93 : decode b_Spend_fill 93 = .ok (.return_, 1) := by decide +kernel
theorem d_Spend_change_0 : decode b_Spend_change 0 = .ok (.iload_n 2, 1) := by decide +kernel
theorem d_Spend_change_1 : decode b_Spend_change 1 = .ok (.iconst 2, 1) := by decide +kernel
theorem d_Spend_change_2 : decode b_Spend_change 2 = .ok (.if_icmp .ne 13, 3) := by decide +kernel
theorem d_Spend_change_5 : decode b_Spend_change 5 = .ok (.iload_n 3, 1) := by decide +kernel
theorem d_Spend_change_6 : decode b_Spend_change 6 = .ok (.invokestatic 71, 3) := by decide +kernel
theorem d_Spend_change_9 : decode b_Spend_change 9 = .ok (.ifCond .ne 15, 3) := by decide +kernel
theorem d_Spend_change_12 : decode b_Spend_change 12 = .ok (.goto 10, 3) := by decide +kernel
theorem d_Spend_change_15 : decode b_Spend_change 15 = .ok (.iload_n 3, 1) := by decide +kernel
theorem d_Spend_change_16 : decode b_Spend_change 16 = .ok (.invokestatic 75, 3) := by decide +kernel
theorem d_Spend_change_19 : decode b_Spend_change 19 = .ok (.ifCond .ne 5, 3) := by decide +kernel
theorem d_Spend_change_22 : decode b_Spend_change 22 = .ok (.iconst 0, 1) := by decide +kernel
theorem d_Spend_change_23 : decode b_Spend_change 23 = .ok (.ireturn, 1) := by decide +kernel
theorem d_Spend_change_24 : decode b_Spend_change 24 = .ok (.iload_n 2, 1) := by decide +kernel
theorem d_Spend_change_25 : decode b_Spend_change 25 = .ok (.ifCond .ne 11, 3) := by decide +kernel
theorem d_Spend_change_28 : decode b_Spend_change 28 = .ok (.aload_n 0, 1) := by decide +kernel
theorem d_Spend_change_29 : decode b_Spend_change 29 = .ok (.iload_n 3, 1) := by decide +kernel
theorem d_Spend_change_30 : decode b_Spend_change 30 = .ok (.putfield 53, 3) := by decide +kernel
theorem d_Spend_change_33 : decode b_Spend_change 33 = .ok (.goto 34, 3) := by decide +kernel
theorem d_Spend_change_36 : decode b_Spend_change 36 = .ok (.iload_n 2, 1) := by decide +kernel
theorem d_Spend_change_37 : decode b_Spend_change 37 = .ok (.iconst 1, 1) := by decide +kernel
theorem d_Spend_change_38 : decode b_Spend_change 38 = .ok (.if_icmp .ne 11, 3) := by decide +kernel
theorem d_Spend_change_41 : decode b_Spend_change 41 = .ok (.aload_n 0, 1) := by decide +kernel
theorem d_Spend_change_42 : decode b_Spend_change 42 = .ok (.iload_n 3, 1) := by decide +kernel
theorem d_Spend_change_43 : decode b_Spend_change 43 = .ok (.putfield 44, 3) := by decide +kernel
theorem d_Spend_change_46 : decode b_Spend_change 46 = .ok (.goto 21, 3) := by decide +kernel
theorem d_Spend_change_49 : decode b_Spend_change 49 = .ok (.aload_n 0, 1) := by decide +kernel
theorem d_Spend_change_50 : decode b_Spend_change 50 = .ok (.iload_n 3, 1) := by decide +kernel
theorem d_Spend_change_51 : decode b_Spend_change 51 = .ok (.putfield 32, 3) := by decide +kernel
theorem d_Spend_change_54 : decode b_Spend_change 54 = .ok (.aload_n 0, 1) := by decide +kernel
theorem d_Spend_change_55 : decode b_Spend_change 55 = .ok (.aload_n 1, 1) := by decide +kernel
theorem d_Spend_change_56 : decode b_Spend_change 56 = .ok (.iload_n 3, 1) := by decide +kernel
theorem d_Spend_change_57 : decode b_Spend_change 57 = .ok (.aload_n 0, 1) := by decide +kernel
theorem d_Spend_change_58 : decode b_Spend_change 58 = .ok (.getfield 60, 3) := by decide +kernel
theorem d_Spend_change_61 : decode b_Spend_change 61 = .ok (.invokevirtual 63, 3) := by decide +kernel
theorem d_Spend_change_64 : decode b_Spend_change 64 = .ok (.putfield 69, 3) := by decide +kernel
theorem d_Spend_change_67 : decode b_Spend_change 67 = .ok (.iconst 1, 1) := by decide +kernel
theorem d_Spend_change_68 : decode b_Spend_change 68 = .ok (.ireturn, 1) := by decide +kernel
theorem d_Spend_isProven_0 : decode b_Spend_isProven 0 = .ok (.aload_n 1, 1) := by decide +kernel
theorem d_Spend_isProven_1 : decode b_Spend_isProven 1 = .ok (.aload_n 0, 1) := by decide +kernel
theorem d_Spend_isProven_2 : decode b_Spend_isProven 2 = .ok (.getfield 28, 3) := by decide +kernel
theorem d_Spend_isProven_5 : decode b_Spend_isProven 5 = .ok (.aload_n 0, 1) := by decide +kernel
theorem d_Spend_isProven_6 : decode b_Spend_isProven 6 = .ok (.getfield 32, 3) := by decide +kernel
theorem d_Spend_isProven_9 : decode b_Spend_isProven 9 = .ok (.aload_n 0, 1) := by decide +kernel
theorem d_Spend_isProven_10 : decode b_Spend_isProven 10 = .ok (.getfield 38, 3) := by decide +kernel
theorem d_Spend_isProven_13 : decode b_Spend_isProven 13 = .ok (.invokevirtual 78, 3) := by decide +kernel
theorem d_Spend_isProven_16 : decode b_Spend_isProven 16 = .ok (.istore_n 2, 1) := by decide +kernel
theorem d_Spend_isProven_17 : decode b_Spend_isProven 17 = .ok (.iconst 0, 1) := by decide +kernel
theorem d_Spend_isProven_18 : decode b_Spend_isProven 18 = .ok (.istore_n 3, 1) := by decide +kernel
theorem d_Spend_isProven_19 : decode b_Spend_isProven 19 = .ok (.iload_n 3, 1) := by decide +kernel
theorem d_Spend_isProven_20 : decode b_Spend_isProven 20 = .ok (.iconst 4, 1) := by decide +kernel
theorem d_Spend_isProven_21 : decode b_Spend_isProven 21 = .ok (.if_icmp .ge 74, 3) := by decide +kernel
theorem d_Spend_isProven_24 : decode b_Spend_isProven 24 = .ok (.aload_n 0, 1) := by decide +kernel
theorem d_Spend_isProven_25 : decode b_Spend_isProven 25 = .ok (.getfield 15, 3) := by decide +kernel
theorem d_Spend_isProven_28 : decode b_Spend_isProven 28 = .ok (.iload_n 3, 1) := by decide +kernel
theorem d_Spend_isProven_29 : decode b_Spend_isProven 29 = .ok (.ishr, 1) := by decide +kernel
theorem d_Spend_isProven_30 : decode b_Spend_isProven 30 = .ok (.iconst 1, 1) := by decide +kernel
theorem d_Spend_isProven_31 : decode b_Spend_isProven 31 = .ok (.iand, 1) := by decide +kernel
theorem d_Spend_isProven_32 : decode b_Spend_isProven 32 = .ok (.iconst 1, 1) := by decide +kernel
theorem d_Spend_isProven_33 : decode b_Spend_isProven 33 = .ok (.if_icmp .ne 7, 3) := by decide +kernel
theorem d_Spend_isProven_36 : decode b_Spend_isProven 36 = .ok (.iconst 1, 1) := by decide +kernel
theorem d_Spend_isProven_37 : decode b_Spend_isProven 37 = .ok (.goto 4, 3) := by decide +kernel
theorem d_Spend_isProven_40 : decode b_Spend_isProven 40 = .ok (.iconst 0, 1) := by decide +kernel
theorem d_Spend_isProven_41 : decode b_Spend_isProven 41 = .ok (.istore 4, 2) := by decide +kernel
theorem d_Spend_isProven_43 : decode b_Spend_isProven 43 = .ok (.iload 4, 2) := by decide +kernel
theorem d_Spend_isProven_45 : decode b_Spend_isProven 45 = .ok (.ifCond .eq 12, 3) := by decide +kernel
theorem d_Spend_isProven_48 : decode b_Spend_isProven 48 = .ok (.aload_n 0, 1) := by decide +kernel
theorem d_Spend_isProven_49 : decode b_Spend_isProven 49 = .ok (.getfield 9, 3) := by decide +kernel
theorem d_Spend_isProven_52 : decode b_Spend_isProven 52 = .ok (.iload_n 3, 1) := by decide +kernel
theorem d_Spend_isProven_53 : decode b_Spend_isProven 53 = .ok (.iaload, 1) := by decide +kernel
theorem d_Spend_isProven_54 : decode b_Spend_isProven 54 = .ok (.goto 4, 3) := by decide +kernel
theorem d_Spend_isProven_57 : decode b_Spend_isProven 57 = .ok (.iload_n 2, 1) := by decide +kernel
theorem d_Spend_isProven_58 : decode b_Spend_isProven 58 = .ok (.istore 5, 2) := by decide +kernel
theorem d_Spend_isProven_60 : decode b_Spend_isProven 60 = .ok (.iload 4, 2) := by decide +kernel
theorem d_Spend_isProven_62 : decode b_Spend_isProven 62 = .ok (.ifCond .eq 7, 3) := by decide +kernel
theorem d_Spend_isProven_65 : decode b_Spend_isProven 65 = .ok (.iload_n 2, 1) := by decide +kernel
theorem d_Spend_isProven_66 : decode b_Spend_isProven 66 = .ok (.goto 9, 3) := by decide +kernel
theorem d_Spend_isProven_69 : decode b_Spend_isProven 69 = .ok (.aload_n 0, 1) := by decide +kernel
theorem d_Spend_isProven_70 : decode b_Spend_isProven 70 = .ok (.getfield 9, 3) := by decide +kernel
theorem d_Spend_isProven_73 : decode b_Spend_isProven 73 = .ok (.iload_n 3, 1) := by decide +kernel
theorem d_Spend_isProven_74 : decode b_Spend_isProven 74 = .ok (.iaload, 1) := by decide +kernel
theorem d_Spend_isProven_75 : decode b_Spend_isProven 75 = .ok (.istore 6, 2) := by decide +kernel
theorem d_Spend_isProven_77 : decode b_Spend_isProven 77 = .ok (.aload_n 1, 1) := by decide +kernel
theorem d_Spend_isProven_78 : decode b_Spend_isProven 78 = .ok (.iload 5, 2) := by decide +kernel
theorem d_Spend_isProven_80 : decode b_Spend_isProven 80 = .ok (.iload 6, 2) := by decide +kernel
theorem d_Spend_isProven_82 : decode b_Spend_isProven 82 = .ok (.iload_n 3, 1) := by decide +kernel
theorem d_Spend_isProven_83 : decode b_Spend_isProven 83 = .ok (.iconst 1, 1) := by decide +kernel
theorem d_Spend_isProven_84 : decode b_Spend_isProven 84 = .ok (.iadd, 1) := by decide +kernel
theorem d_Spend_isProven_85 : decode b_Spend_isProven 85 = .ok (.invokevirtual 82, 3) := by decide +kernel
theorem d_Spend_isProven_88 : decode b_Spend_isProven 88 = .ok (.istore_n 2, 1) := by decide +kernel
theorem d_Spend_isProven_89 : decode b_Spend_isProven 89 = .ok (.iinc 3 1, 3) := by decide +kernel
theorem d_Spend_isProven_92 : decode b_Spend_isProven 92 = .ok (.goto (-73), 3) := by decide +kernel
theorem d_Spend_isProven_95 : decode b_Spend_isProven 95 = .ok (.iload_n 2, 1) := by decide +kernel
theorem d_Spend_isProven_96 : decode b_Spend_isProven 96 = .ok (.aload_n 0, 1) := by decide +kernel
theorem d_Spend_isProven_97 : decode b_Spend_isProven 97 = .ok (.getfield 53, 3) := by decide +kernel
theorem d_Spend_isProven_100 : decode b_Spend_isProven 100 = .ok (.if_icmp .ne 26, 3) := by decide +kernel
theorem d_Spend_isProven_103 : decode b_Spend_isProven 103 = .ok (.aload_n 0, 1) := by decide +kernel
theorem d_Spend_isProven_104 : decode b_Spend_isProven 104 = .ok (.getfield 44, 3) := by decide +kernel
theorem d_Spend_isProven_107 : decode b_Spend_isProven 107 = .ok (.aload_n 1, 1) := by decide +kernel
theorem d_Spend_isProven_108 : decode b_Spend_isProven 108 = .ok (.aload_n 0, 1) := by decide +kernel
theorem d_Spend_isProven_109 : decode b_Spend_isProven 109 = .ok (.getfield 24, 3) := by decide +kernel
theorem d_Spend_isProven_112 : decode b_Spend_isProven 112 = .ok (.aload_n 0, 1) := by decide +kernel
theorem d_Spend_isProven_113 : decode b_Spend_isProven 113 = .ok (.getfield 15, 3) := by decide +kernel
theorem d_Spend_isProven_116 : decode b_Spend_isProven 116 = .ok (.invokevirtual 85, 3) := by decide +kernel
theorem d_Spend_isProven_119 : decode b_Spend_isProven 119 = .ok (.if_icmp .ne 7, 3) := by decide +kernel
theorem d_Spend_isProven_122 : decode b_Spend_isProven 122 = .ok (.iconst 1, 1) := by decide +kernel
theorem d_Spend_isProven_123 : decode b_Spend_isProven 123 = .ok (.goto 4, 3) := by decide +kernel
theorem d_Spend_isProven_126 : decode b_Spend_isProven 126 = .ok (.iconst 0, 1) := by decide +kernel
theorem d_Spend_isProven_127 : decode b_Spend_isProven 127 = .ok (.ireturn, 1) := by decide +kernel
theorem d_Output_fill_0 : decode b_Output_fill 0 = .ok (.aload_n 0, 1) := by decide +kernel
theorem d_Output_fill_1 : decode b_Output_fill 1 = .ok (.iload_n 2, 1) := by decide +kernel
theorem d_Output_fill_2 : decode b_Output_fill 2 = .ok (.putfield 9, 3) := by decide +kernel
theorem d_Output_fill_5 : decode b_Output_fill 5 = .ok (.aload_n 0, 1) := by decide +kernel
theorem d_Output_fill_6 : decode b_Output_fill 6 = .ok (.iload_n 3, 1) := by decide +kernel
theorem d_Output_fill_7 : decode b_Output_fill 7 = .ok (.putfield 15, 3) := by decide +kernel
theorem d_Output_fill_10 : decode b_Output_fill 10 = .ok (.aload_n 0, 1) := by decide +kernel
theorem d_Output_fill_11 : decode b_Output_fill 11 = .ok (.iload 4, 2) := by decide +kernel
theorem d_Output_fill_13 : decode b_Output_fill 13 = .ok (.putfield 18, 3) := by decide +kernel
theorem d_Output_fill_16 : decode b_Output_fill 16 = .ok (.aload_n 0, 1) := by decide +kernel
theorem d_Output_fill_17 : decode b_Output_fill 17 = .ok (.aload_n 1, 1) := by decide +kernel
theorem d_Output_fill_18 : decode b_Output_fill 18 = .ok (.iload_n 2, 1) := by decide +kernel
theorem d_Output_fill_19 : decode b_Output_fill 19 = .ok (.iload_n 3, 1) := by decide +kernel
theorem d_Output_fill_20 : decode b_Output_fill 20 = .ok (.iload 4, 2) := by decide +kernel
theorem d_Output_fill_22 : decode b_Output_fill 22 = .ok (.invokevirtual 21, 3) := by decide +kernel
theorem d_Output_fill_25 : decode b_Output_fill 25 = .ok (.putfield 27, 3) := by decide +kernel
theorem d_Output_fill_28 : decode b_Output_fill 28 = .ok (.return_, 1) := by decide +kernel
theorem d_Output_seal_0 : decode b_Output_seal 0 = .ok (.iload_n 2, 1) := by decide +kernel
theorem d_Output_seal_1 : decode b_Output_seal 1 = .ok (.aload_n 0, 1) := by decide +kernel
theorem d_Output_seal_2 : decode b_Output_seal 2 = .ok (.getfield 9, 3) := by decide +kernel
theorem d_Output_seal_5 : decode b_Output_seal 5 = .ok (.invokestatic 29, 3) := by decide +kernel
theorem d_Output_seal_8 : decode b_Output_seal 8 = .ok (.istore 4, 2) := by decide +kernel
theorem d_Output_seal_10 : decode b_Output_seal 10 = .ok (.aload_n 0, 1) := by decide +kernel
theorem d_Output_seal_11 : decode b_Output_seal 11 = .ok (.aload_n 1, 1) := by decide +kernel
theorem d_Output_seal_12 : decode b_Output_seal 12 = .ok (.getfield 35, 3) := by decide +kernel
theorem d_Output_seal_15 : decode b_Output_seal 15 = .ok (.iload_n 2, 1) := by decide +kernel
theorem d_Output_seal_16 : decode b_Output_seal 16 = .ok (.invokevirtual 39, 3) := by decide +kernel
theorem d_Output_seal_19 : decode b_Output_seal 19 = .ok (.putfield 45, 3) := by decide +kernel
theorem d_Output_seal_22 : decode b_Output_seal 22 = .ok (.aload_n 0, 1) := by decide +kernel
theorem d_Output_seal_23 : decode b_Output_seal 23 = .ok (.aload_n 0, 1) := by decide +kernel
theorem d_Output_seal_24 : decode b_Output_seal 24 = .ok (.getfield 15, 3) := by decide +kernel
theorem d_Output_seal_27 : decode b_Output_seal 27 = .ok (.iload 4, 2) := by decide +kernel
theorem d_Output_seal_29 : decode b_Output_seal 29 = .ok (.iconst 0, 1) := by decide +kernel
theorem d_Output_seal_30 : decode b_Output_seal 30 = .ok (.invokestatic 48, 3) := by decide +kernel
theorem d_Output_seal_33 : decode b_Output_seal 33 = .ok (.iadd, 1) := by decide +kernel
theorem d_Output_seal_34 : decode b_Output_seal 34 = .ok (.sipush 1000, 3) := by decide +kernel
theorem d_Output_seal_37 : decode b_Output_seal 37 = .ok (.irem, 1) := by decide +kernel
theorem d_Output_seal_38 : decode b_Output_seal 38 = .ok (.putfield 51, 3) := by decide +kernel
theorem d_Output_seal_41 : decode b_Output_seal 41 = .ok (.aload_n 0, 1) := by decide +kernel
theorem d_Output_seal_42 : decode b_Output_seal 42 = .ok (.aload_n 0, 1) := by decide +kernel
theorem d_Output_seal_43 : decode b_Output_seal 43 = .ok (.getfield 18, 3) := by decide +kernel
theorem d_Output_seal_46 : decode b_Output_seal 46 = .ok (.iload 4, 2) := by decide +kernel
theorem d_Output_seal_48 : decode b_Output_seal 48 = .ok (.iconst 1, 1) := by decide +kernel
theorem d_Output_seal_49 : decode b_Output_seal 49 = .ok (.invokestatic 48, 3) := by decide +kernel
theorem d_Output_seal_52 : decode b_Output_seal 52 = .ok (.iadd, 1) := by decide +kernel
theorem d_Output_seal_53 : decode b_Output_seal 53 = .ok (.sipush 2473, 3) := by decide +kernel
theorem d_Output_seal_56 : decode b_Output_seal 56 = .ok (.irem, 1) := by decide +kernel
theorem d_Output_seal_57 : decode b_Output_seal 57 = .ok (.putfield 54, 3) := by decide +kernel
theorem d_Output_seal_60 : decode b_Output_seal 60 = .ok (.aload_n 0, 1) := by decide +kernel
theorem d_Output_seal_61 : decode b_Output_seal 61 = .ok (.iload_n 3, 1) := by decide +kernel
theorem d_Output_seal_62 : decode b_Output_seal 62 = .ok (.putfield 57, 3) := by decide +kernel
theorem d_Output_seal_65 : decode b_Output_seal 65 = .ok (.aload_n 0, 1) := by decide +kernel
theorem d_Output_seal_66 : decode b_Output_seal 66 = .ok (.aload_n 1, 1) := by decide +kernel
theorem d_Output_seal_67 : decode b_Output_seal 67 = .ok (.aload_n 0, 1) := by decide +kernel
theorem d_Output_seal_68 : decode b_Output_seal 68 = .ok (.getfield 15, 3) := by decide +kernel
theorem d_Output_seal_71 : decode b_Output_seal 71 = .ok (.iload_n 3, 1) := by decide +kernel
theorem d_Output_seal_72 : decode b_Output_seal 72 = .ok (.invokevirtual 60, 3) := by decide +kernel
theorem d_Output_seal_75 : decode b_Output_seal 75 = .ok (.putfield 63, 3) := by decide +kernel
theorem d_Output_seal_78 : decode b_Output_seal 78 = .ok (.return_, 1) := by decide +kernel
theorem d_Output_change_0 : decode b_Output_change 0 = .ok (.iload_n 1, 1) := by decide +kernel
theorem d_Output_change_1 : decode b_Output_change 1 = .ok (.iconst 3, 1) := by decide +kernel
theorem d_Output_change_2 : decode b_Output_change 2 = .ok (.if_icmp .ne 13, 3) := by decide +kernel
theorem d_Output_change_5 : decode b_Output_change 5 = .ok (.iload_n 2, 1) := by decide +kernel
theorem d_Output_change_6 : decode b_Output_change 6 = .ok (.invokestatic 65, 3) := by decide +kernel
theorem d_Output_change_9 : decode b_Output_change 9 = .ok (.ifCond .ne 15, 3) := by decide +kernel
theorem d_Output_change_12 : decode b_Output_change 12 = .ok (.goto 10, 3) := by decide +kernel
theorem d_Output_change_15 : decode b_Output_change 15 = .ok (.iload_n 2, 1) := by decide +kernel
theorem d_Output_change_16 : decode b_Output_change 16 = .ok (.invokestatic 69, 3) := by decide +kernel
theorem d_Output_change_19 : decode b_Output_change 19 = .ok (.ifCond .ne 5, 3) := by decide +kernel
theorem d_Output_change_22 : decode b_Output_change 22 = .ok (.iconst 0, 1) := by decide +kernel
theorem d_Output_change_23 : decode b_Output_change 23 = .ok (.ireturn, 1) := by decide +kernel
theorem d_Output_change_24 : decode b_Output_change 24 = .ok (.iload_n 1, 1) := by decide +kernel
theorem d_Output_change_25 : decode b_Output_change 25 = .ok (.iconst 3, 1) := by decide +kernel
theorem d_Output_change_26 : decode b_Output_change 26 = .ok (.if_icmp .ne 11, 3) := by decide +kernel
theorem d_Output_change_29 : decode b_Output_change 29 = .ok (.aload_n 0, 1) := by decide +kernel
theorem d_Output_change_30 : decode b_Output_change 30 = .ok (.iload_n 2, 1) := by decide +kernel
theorem d_Output_change_31 : decode b_Output_change 31 = .ok (.putfield 27, 3) := by decide +kernel
theorem d_Output_change_34 : decode b_Output_change 34 = .ok (.goto 8, 3) := by decide +kernel
theorem d_Output_change_37 : decode b_Output_change 37 = .ok (.aload_n 0, 1) := by decide +kernel
theorem d_Output_change_38 : decode b_Output_change 38 = .ok (.iload_n 2, 1) := by decide +kernel
theorem d_Output_change_39 : decode b_Output_change 39 = .ok (.putfield 51, 3) := by decide +kernel
theorem d_Output_change_42 : decode b_Output_change 42 = .ok (.iconst 1, 1) := by decide +kernel
theorem d_Output_change_43 : decode b_Output_change 43 = .ok (.ireturn, 1) := by decide +kernel
theorem d_Output_isProven_0 : decode b_Output_isProven 0 = .ok (.aload_n 0, 1) := by decide +kernel
theorem d_Output_isProven_1 : decode b_Output_isProven 1 = .ok (.getfield 27, 3) := by decide +kernel
theorem d_Output_isProven_4 : decode b_Output_isProven 4 = .ok (.aload_n 1, 1) := by decide +kernel
theorem d_Output_isProven_5 : decode b_Output_isProven 5 = .ok (.aload_n 0, 1) := by decide +kernel
theorem d_Output_isProven_6 : decode b_Output_isProven 6 = .ok (.getfield 9, 3) := by decide +kernel
theorem d_Output_isProven_9 : decode b_Output_isProven 9 = .ok (.aload_n 0, 1) := by decide +kernel
theorem d_Output_isProven_10 : decode b_Output_isProven 10 = .ok (.getfield 15, 3) := by decide +kernel
theorem d_Output_isProven_13 : decode b_Output_isProven 13 = .ok (.aload_n 0, 1) := by decide +kernel
theorem d_Output_isProven_14 : decode b_Output_isProven 14 = .ok (.getfield 18, 3) := by decide +kernel
theorem d_Output_isProven_17 : decode b_Output_isProven 17 = .ok (.invokevirtual 21, 3) := by decide +kernel
theorem d_Output_isProven_20 : decode b_Output_isProven 20 = .ok (.if_icmp .ne 7, 3) := by decide +kernel
theorem d_Output_isProven_23 : decode b_Output_isProven 23 = .ok (.iconst 1, 1) := by decide +kernel
theorem d_Output_isProven_24 : decode b_Output_isProven 24 = .ok (.goto 4, 3) := by decide +kernel
theorem d_Output_isProven_27 : decode b_Output_isProven 27 = .ok (.iconst 0, 1) := by decide +kernel
theorem d_Output_isProven_28 : decode b_Output_isProven 28 = .ok (.ireturn, 1) := by decide +kernel
theorem d_Output_part_0 : decode b_Output_part 0 = .ok (.iload_n 1, 1) := by decide +kernel
theorem d_Output_part_1 : decode b_Output_part 1 = .ok (.tableswitch 81 0 5 #[39, 44, 53, 62, 67, 72], 39) := by decide +kernel
theorem d_Output_part_40 : decode b_Output_part 40 = .ok (.aload_n 0, 1) := by decide +kernel
theorem d_Output_part_41 : decode b_Output_part 41 = .ok (.getfield 27, 3) := by decide +kernel
theorem d_Output_part_44 : decode b_Output_part 44 = .ok (.ireturn, 1) := by decide +kernel
theorem d_Output_part_45 : decode b_Output_part 45 = .ok (.aload_n 0, 1) := by decide +kernel
theorem d_Output_part_46 : decode b_Output_part 46 = .ok (.getfield 45, 3) := by decide +kernel
theorem d_Output_part_49 : decode b_Output_part 49 = .ok (.iconst 0, 1) := by decide +kernel
theorem d_Output_part_50 : decode b_Output_part 50 = .ok (.invokestatic 48, 3) := by decide +kernel
theorem d_Output_part_53 : decode b_Output_part 53 = .ok (.ireturn, 1) := by decide +kernel
theorem d_Output_part_54 : decode b_Output_part 54 = .ok (.aload_n 0, 1) := by decide +kernel
theorem d_Output_part_55 : decode b_Output_part 55 = .ok (.getfield 45, 3) := by decide +kernel
theorem d_Output_part_58 : decode b_Output_part 58 = .ok (.iconst 1, 1) := by decide +kernel
theorem d_Output_part_59 : decode b_Output_part 59 = .ok (.invokestatic 48, 3) := by decide +kernel
theorem d_Output_part_62 : decode b_Output_part 62 = .ok (.ireturn, 1) := by decide +kernel
theorem d_Output_part_63 : decode b_Output_part 63 = .ok (.aload_n 0, 1) := by decide +kernel
theorem d_Output_part_64 : decode b_Output_part 64 = .ok (.getfield 51, 3) := by decide +kernel
theorem d_Output_part_67 : decode b_Output_part 67 = .ok (.ireturn, 1) := by decide +kernel
theorem d_Output_part_68 : decode b_Output_part 68 = .ok (.aload_n 0, 1) := by decide +kernel
theorem d_Output_part_69 : decode b_Output_part 69 = .ok (.getfield 54, 3) := by decide +kernel
theorem d_Output_part_72 : decode b_Output_part 72 = .ok (.ireturn, 1) := by decide +kernel
theorem d_Output_part_73 : decode b_Output_part 73 = .ok (.aload_n 0, 1) := by decide +kernel
theorem d_Output_part_74 : decode b_Output_part 74 = .ok (.getfield 63, 3) := by decide +kernel
theorem d_Output_part_77 : decode b_Output_part 77 = .ok (.iconst 0, 1) := by decide +kernel
theorem d_Output_part_78 : decode b_Output_part 78 = .ok (.invokestatic 48, 3) := by decide +kernel
theorem d_Output_part_81 : decode b_Output_part 81 = .ok (.ireturn, 1) := by decide +kernel
theorem d_Output_part_82 : decode b_Output_part 82 = .ok (.aload_n 0, 1) := by decide +kernel
theorem d_Output_part_83 : decode b_Output_part 83 = .ok (.getfield 63, 3) := by decide +kernel
theorem d_Output_part_86 : decode b_Output_part 86 = .ok (.iconst 1, 1) := by decide +kernel
theorem d_Output_part_87 : decode b_Output_part 87 = .ok (.invokestatic 48, 3) := by decide +kernel
theorem d_Output_part_90 : decode b_Output_part 90 = .ok (.ireturn, 1) := by decide +kernel

set_option maxHeartbeats 4000000 in
set_option maxRecDepth 100000 in
theorem c_P_isFieldNumber (l : Launch) (G : yG) (n : Int) (hn : jr n) : Met l y_P_isFieldNumber (Cond.code y_P_isFieldNumber b_P_isFieldNumber 1 (some .boolean) :: yT) ({ frames := 0, cells := 0, slots := 0, locals := 0 } : Room) (yP0 (yK G) [.int (J (n))]) (yQi (if 0 ≤ n ∧ n < 10009 then 1 else 0)) 0 0 yN := by
  refine y_met (by decide +kernel) (Nat.le_of_ble_eq_true rfl) ?_
  intro p e s m below meth c ls hx hb hr hml hlocks hown hname hts hv hl
  have hA : ∀ w ∈ yT, w.before _ s = true := fun w h => hts w (List.mem_cons_of_mem _ h)
  have hl : lv_has ls 1 [(0, .int (J (n)))] := hl
  have hK : yK G s := hv
  have hS : va_S yN s.heap s.heap [] := va_S.rf
  refine lv_iload_n hx hb d_P_isFieldNumber_0 rfl (lv_at hl 0 rfl) ?_
  refine y_if_lt (tgt := 15) hx hb d_P_isFieldNumber_1 (by decide) ⟨by omega, by omega⟩ (fun hc1 => ?_) (fun hc1 => ?_)
  · skip
    refine lv_iconst (v := J (0)) hx hb d_P_isFieldNumber_15 rfl ?_
    exact y_retz hx hb hr hlocks hS (Or.inl rfl) (by first | exact (if_pos (by omega)).symm | exact (if_neg (by omega)).symm) d_P_isFieldNumber_16
  · skip
    refine lv_iload_n hx hb d_P_isFieldNumber_4 rfl (lv_at hl 0 rfl) ?_
    refine lv_sipush (v := J (10009)) hx hb d_P_isFieldNumber_5 (by decide) ?_
    refine y_icmp_ge (tgt := 15) hx hb d_P_isFieldNumber_8 (by decide) ⟨by omega, by omega⟩ ⟨by omega, by omega⟩ (fun hc2 => ?_) (fun hc2 => ?_)
    · skip
      refine lv_iconst (v := J (0)) hx hb d_P_isFieldNumber_15 rfl ?_
      exact y_retz hx hb hr hlocks hS (Or.inl rfl) (by first | exact (if_pos (by omega)).symm | exact (if_neg (by omega)).symm) d_P_isFieldNumber_16
    · skip
      refine lv_iconst (v := J (1)) hx hb d_P_isFieldNumber_11 rfl ?_
      refine lv_goto (tgt := 16) hx hb d_P_isFieldNumber_12 (by decide) ?_
      exact y_retz hx hb hr hlocks hS (Or.inr rfl) (by first | exact (if_pos (by omega)).symm | exact (if_neg (by omega)).symm) d_P_isFieldNumber_16

set_option maxHeartbeats 4000000 in
set_option maxRecDepth 100000 in
theorem c_P_isScalar (l : Launch) (G : yG) (n : Int) (hn : jr n) : Met l y_P_isScalar (Cond.code y_P_isScalar b_P_isScalar 1 (some .boolean) :: yT) ({ frames := 0, cells := 0, slots := 0, locals := 0 } : Room) (yP0 (yK G) [.int (J (n))]) (yQi (if 0 ≤ n ∧ n < 2473 then 1 else 0)) 0 0 yN := by
  refine y_met (by decide +kernel) (Nat.le_of_ble_eq_true rfl) ?_
  intro p e s m below meth c ls hx hb hr hml hlocks hown hname hts hv hl
  have hA : ∀ w ∈ yT, w.before _ s = true := fun w h => hts w (List.mem_cons_of_mem _ h)
  have hl : lv_has ls 1 [(0, .int (J (n)))] := hl
  have hK : yK G s := hv
  have hS : va_S yN s.heap s.heap [] := va_S.rf
  refine lv_iload_n hx hb d_P_isScalar_0 rfl (lv_at hl 0 rfl) ?_
  refine y_if_lt (tgt := 15) hx hb d_P_isScalar_1 (by decide) ⟨by omega, by omega⟩ (fun hc1 => ?_) (fun hc1 => ?_)
  · skip
    refine lv_iconst (v := J (0)) hx hb d_P_isScalar_15 rfl ?_
    exact y_retz hx hb hr hlocks hS (Or.inl rfl) (by first | exact (if_pos (by omega)).symm | exact (if_neg (by omega)).symm) d_P_isScalar_16
  · skip
    refine lv_iload_n hx hb d_P_isScalar_4 rfl (lv_at hl 0 rfl) ?_
    refine lv_sipush (v := J (2473)) hx hb d_P_isScalar_5 (by decide) ?_
    refine y_icmp_ge (tgt := 15) hx hb d_P_isScalar_8 (by decide) ⟨by omega, by omega⟩ ⟨by omega, by omega⟩ (fun hc2 => ?_) (fun hc2 => ?_)
    · skip
      refine lv_iconst (v := J (0)) hx hb d_P_isScalar_15 rfl ?_
      exact y_retz hx hb hr hlocks hS (Or.inl rfl) (by first | exact (if_pos (by omega)).symm | exact (if_neg (by omega)).symm) d_P_isScalar_16
    · skip
      refine lv_iconst (v := J (1)) hx hb d_P_isScalar_11 rfl ?_
      refine lv_goto (tgt := 16) hx hb d_P_isScalar_12 (by decide) ?_
      exact y_retz hx hb hr hlocks hS (Or.inr rfl) (by first | exact (if_pos (by omega)).symm | exact (if_neg (by omega)).symm) d_P_isScalar_16

set_option maxHeartbeats 4000000 in
set_option maxRecDepth 100000 in
theorem c_P_isValue (l : Launch) (G : yG) (n : Int) (hn : jr n) : Met l y_P_isValue (Cond.code y_P_isValue b_P_isValue 1 (some .boolean) :: yT) ({ frames := 0, cells := 0, slots := 0, locals := 0 } : Room) (yP0 (yK G) [.int (J (n))]) (yQi (if 0 ≤ n ∧ n < 1000 then 1 else 0)) 0 0 yN := by
  refine y_met (by decide +kernel) (Nat.le_of_ble_eq_true rfl) ?_
  intro p e s m below meth c ls hx hb hr hml hlocks hown hname hts hv hl
  have hA : ∀ w ∈ yT, w.before _ s = true := fun w h => hts w (List.mem_cons_of_mem _ h)
  have hl : lv_has ls 1 [(0, .int (J (n)))] := hl
  have hK : yK G s := hv
  have hS : va_S yN s.heap s.heap [] := va_S.rf
  refine lv_iload_n hx hb d_P_isValue_0 rfl (lv_at hl 0 rfl) ?_
  refine y_if_lt (tgt := 15) hx hb d_P_isValue_1 (by decide) ⟨by omega, by omega⟩ (fun hc1 => ?_) (fun hc1 => ?_)
  · skip
    refine lv_iconst (v := J (0)) hx hb d_P_isValue_15 rfl ?_
    exact y_retz hx hb hr hlocks hS (Or.inl rfl) (by first | exact (if_pos (by omega)).symm | exact (if_neg (by omega)).symm) d_P_isValue_16
  · skip
    refine lv_iload_n hx hb d_P_isValue_4 rfl (lv_at hl 0 rfl) ?_
    refine lv_sipush (v := J (1000)) hx hb d_P_isValue_5 (by decide) ?_
    refine y_icmp_ge (tgt := 15) hx hb d_P_isValue_8 (by decide) ⟨by omega, by omega⟩ ⟨by omega, by omega⟩ (fun hc2 => ?_) (fun hc2 => ?_)
    · skip
      refine lv_iconst (v := J (0)) hx hb d_P_isValue_15 rfl ?_
      exact y_retz hx hb hr hlocks hS (Or.inl rfl) (by first | exact (if_pos (by omega)).symm | exact (if_neg (by omega)).symm) d_P_isValue_16
    · skip
      refine lv_iconst (v := J (1)) hx hb d_P_isValue_11 rfl ?_
      refine lv_goto (tgt := 16) hx hb d_P_isValue_12 (by decide) ?_
      exact y_retz hx hb hr hlocks hS (Or.inr rfl) (by first | exact (if_pos (by omega)).symm | exact (if_neg (by omega)).symm) d_P_isValue_16

set_option maxHeartbeats 4000000 in
set_option maxRecDepth 100000 in
theorem c_Spend_fill (l : Launch) (G : yG) (z : Nat) (σ : yM) (hBs : yBs σ) (q : Nat) (hq : q < 2) (k : Nat) (hk : k < 4) (i : Nat) (hi : i < 16) (w0 : Int) (hw0 : jr w0) (hv0 : jr (σ (53 + 5 * k + 2) i)) : Met l y_Spend_fill (Cond.code y_Spend_fill b_Spend_fill 6 (Option.none : Option Jvm.ClassFile.FieldType) :: yT) ({ frames := 4, cells := 0, slots := 0, locals := 100 } : Room) (yP ycl G yLP 0 73 z σ (yK G) [.ref (z + (46 + 2 * q)), .ref (z + 1), .ref (z + 12), .ref (z + (53 + 5 * k)), .int (J ((i : Int))), .int (J (w0))]) (yQh ycl G yLP 0 73 z (fun τ => (∀ d, d ≠ (46 + 2 * q) → d ≠ (46 + 2 * q + 1) → τ d = σ d) ∧ τ (46 + 2 * q) 0 = σ (53 + 5 * k) 0 ∧ τ (46 + 2 * q) 1 = σ (53 + 5 * k) 1 ∧ τ (46 + 2 * q) 2 = (i : Int) ∧ τ (46 + 2 * q) 3 = σ (53 + 5 * k + 2) i ∧ τ (46 + 2 * q) 4 = σ (53 + 5 * k + 3) i ∧ τ (46 + 2 * q) 5 = w0 ∧ τ (46 + 2 * q) 7 = σ 13 30 ∧ τ (46 + 2 * q) 8 = σ (53 + 5 * k + 4) i ∧ τ (46 + 2 * q) 9 = eE (1281 * σ (53 + 5 * k + 2) i + 1369 * w0) ∧ ∀ L, L < 4 → τ (46 + 2 * q + 1) L = σ 13 (tpl L (i / 2 ^ L ^^^ 1)))) 0 0 (yA z 0 73) := by
  refine y_met (by decide +kernel) (Nat.le_of_ble_eq_true rfl) ?_
  intro p e s m below meth c ls hx hb hr hml hlocks hown hname hts hv hl
  have hA : ∀ w ∈ yT, w.before _ s = true := fun w h => hts w (List.mem_cons_of_mem _ h)
  have hl : lv_has ls 6 [(0, .ref (z + (46 + 2 * q))), (1, .ref (z + 1)), (2, .ref (z + 12)), (3, .ref (z + (53 + 5 * k))), (4, .int (J ((i : Int)))), (5, .int (J (w0)))] := hl
  obtain ⟨hW, hK⟩ := hv
  have hS : va_S (yA z 0 73) s.heap s.heap [] := va_S.rf
  have hAr : ∀ d, 0 ≤ d ∧ d < 0 + 73 → yA z 0 73 (z + d) := yA_all
  refine lv_aload_n hx hb d_Spend_fill_0 rfl (lv_at hl 0 rfl) ?_
  refine lv_iload hx hb d_Spend_fill_1 (lv_at hl 4 rfl) ?_
  refine y_puti hx hb hA in_Spend hown hK.1 hW (46 + 2 * q) (by omega) (lay_Spend (n := q) (by omega)) rfl 2 (by decide) t_Spend tk_Spend nm_Spend hS hAr (hA _ k_fl_Spend_15) rfl (by decide +kernel) rfl d_Spend_fill_3 (fun H locs hW hS => ?_)
  refine lv_aload_n hx hb d_Spend_fill_6 rfl (lv_at hl 0 rfl) ?_
  refine lv_aload_n hx hb d_Spend_fill_7 rfl (lv_at hl 3 rfl) ?_
  refine y_geti hx hb hA in_Key hown hK.1 hW (53 + 5 * k) (by omega) (lay_Key (n := k) (by omega)) rfl 0 (by decide) (hA _ k_fl_Spend_19) rfl d_Spend_fill_8 ?_
  rw [y2_cl (show (53 + 5 * k) ≠ (46 + 2 * q) by omega)]
  refine y_puti hx hb hA in_Spend hown hK.1 hW (46 + 2 * q) (by omega) (lay_Spend (n := q) (by omega)) rfl 0 (by decide) t_Spend tk_Spend nm_Spend hS hAr (hA _ k_fl_Spend_24) rfl (by decide +kernel) rfl d_Spend_fill_11 (fun H locs hW hS => ?_)
  refine lv_aload_n hx hb d_Spend_fill_14 rfl (lv_at hl 0 rfl) ?_
  refine lv_aload_n hx hb d_Spend_fill_15 rfl (lv_at hl 3 rfl) ?_
  refine y_geti hx hb hA in_Key hown hK.1 hW (53 + 5 * k) (by omega) (lay_Key (n := k) (by omega)) rfl 1 (by decide) (hA _ k_fl_Spend_25) rfl d_Spend_fill_16 ?_
  rw [y2_cl (show (53 + 5 * k) ≠ (46 + 2 * q) by omega), y2_cl (show (53 + 5 * k) ≠ (46 + 2 * q) by omega)]
  refine y_puti hx hb hA in_Spend hown hK.1 hW (46 + 2 * q) (by omega) (lay_Spend (n := q) (by omega)) rfl 1 (by decide) t_Spend tk_Spend nm_Spend hS hAr (hA _ k_fl_Spend_28) rfl (by decide +kernel) rfl d_Spend_fill_19 (fun H locs hW hS => ?_)
  refine lv_aload_n hx hb d_Spend_fill_22 rfl (lv_at hl 0 rfl) ?_
  refine lv_aload_n hx hb d_Spend_fill_23 rfl (lv_at hl 3 rfl) ?_
  refine y_getr hx hb hA in_Key hown hK.1 hW (53 + 5 * k) (by omega) (lay_Key (n := k) (by omega)) rfl 3 (by decide) (hA _ k_fl_Spend_29) rfl d_Spend_fill_24 ?_
  refine lv_iload hx hb d_Spend_fill_27 (lv_at hl 4 rfl) ?_
  refine y_iald hx hb hK.1 hW (53 + 5 * k + 2) (by omega) (lay_Kval (n := k) (by omega)) rfl (by decide) i rfl (by omega) d_Spend_fill_29 ?_
  rw [y2_cl (show (53 + 5 * k + 2) ≠ (46 + 2 * q) by omega), y2_cl (show (53 + 5 * k + 2) ≠ (46 + 2 * q) by omega), y2_cl (show (53 + 5 * k + 2) ≠ (46 + 2 * q) by omega)]
  refine y_puti hx hb hA in_Spend hown hK.1 hW (46 + 2 * q) (by omega) (lay_Spend (n := q) (by omega)) rfl 3 (by decide) t_Spend tk_Spend nm_Spend hS hAr (hA _ k_fl_Spend_32) rfl (by decide +kernel) rfl d_Spend_fill_30 (fun H locs hW hS => ?_)
  refine lv_aload_n hx hb d_Spend_fill_33 rfl (lv_at hl 0 rfl) ?_
  refine lv_aload_n hx hb d_Spend_fill_34 rfl (lv_at hl 3 rfl) ?_
  refine y_getr hx hb hA in_Key hown hK.1 hW (53 + 5 * k) (by omega) (lay_Key (n := k) (by omega)) rfl 4 (by decide) (hA _ k_fl_Spend_35) rfl d_Spend_fill_35 ?_
  refine lv_iload hx hb d_Spend_fill_38 (lv_at hl 4 rfl) ?_
  refine y_iald hx hb hK.1 hW (53 + 5 * k + 3) (by omega) (lay_Ktrp (n := k) (by omega)) rfl (by decide) i rfl (by omega) d_Spend_fill_40 ?_
  rw [y2_cl (show (53 + 5 * k + 3) ≠ (46 + 2 * q) by omega), y2_cl (show (53 + 5 * k + 3) ≠ (46 + 2 * q) by omega), y2_cl (show (53 + 5 * k + 3) ≠ (46 + 2 * q) by omega), y2_cl (show (53 + 5 * k + 3) ≠ (46 + 2 * q) by omega)]
  refine y_puti hx hb hA in_Spend hown hK.1 hW (46 + 2 * q) (by omega) (lay_Spend (n := q) (by omega)) rfl 4 (by decide) t_Spend tk_Spend nm_Spend hS hAr (hA _ k_fl_Spend_38) rfl (by decide +kernel) rfl d_Spend_fill_41 (fun H locs hW hS => ?_)
  refine lv_aload_n hx hb d_Spend_fill_44 rfl (lv_at hl 0 rfl) ?_
  refine lv_aload_n hx hb d_Spend_fill_45 rfl (lv_at hl 3 rfl) ?_
  refine y_getr hx hb hA in_Key hown hK.1 hW (53 + 5 * k) (by omega) (lay_Key (n := k) (by omega)) rfl 5 (by decide) (hA _ k_fl_Spend_41) rfl d_Spend_fill_46 ?_
  refine lv_iload hx hb d_Spend_fill_49 (lv_at hl 4 rfl) ?_
  refine y_iald hx hb hK.1 hW (53 + 5 * k + 4) (by omega) (lay_Knul (n := k) (by omega)) rfl (by decide) i rfl (by omega) d_Spend_fill_51 ?_
  rw [y2_cl (show (53 + 5 * k + 4) ≠ (46 + 2 * q) by omega), y2_cl (show (53 + 5 * k + 4) ≠ (46 + 2 * q) by omega), y2_cl (show (53 + 5 * k + 4) ≠ (46 + 2 * q) by omega), y2_cl (show (53 + 5 * k + 4) ≠ (46 + 2 * q) by omega), y2_cl (show (53 + 5 * k + 4) ≠ (46 + 2 * q) by omega)]
  refine y_puti hx hb hA in_Spend hown hK.1 hW (46 + 2 * q) (by omega) (lay_Spend (n := q) (by omega)) rfl 8 (by decide) t_Spend tk_Spend nm_Spend hS hAr (hA _ k_fl_Spend_44) rfl (by decide +kernel) rfl d_Spend_fill_52 (fun H locs hW hS => ?_)
  refine lv_aload_n hx hb d_Spend_fill_55 rfl (lv_at hl 0 rfl) ?_
  refine lv_aload_n hx hb d_Spend_fill_56 rfl (lv_at hl 2 rfl) ?_
  refine y_ci (y_runV (As := []) (rest := [.ref (z + (46 + 2 * q))]) ⟨hx, hb, hml, hown, hts⟩ (c_Tree_root l G z (y2 (y2 (y2 (y2 (y2 (y2 σ (46 + 2 * q) 2 ((i : Int))) (46 + 2 * q) 0 (σ (53 + 5 * k) 0)) (46 + 2 * q) 1 (σ (53 + 5 * k) 1)) (46 + 2 * q) 3 (σ (53 + 5 * k + 2) i)) (46 + 2 * q) 4 (σ (53 + 5 * k + 3) i)) (46 + 2 * q) 8 (σ (53 + 5 * k + 4) i))) 0 k_co_Tree_root k_ml_Spend_47 k_im_Tree_root k_se_Tree_root k_in_Tree rfl rfl (by decide +kernel) ⟨Nat.le_of_ble_eq_true rfl, Nat.le_of_ble_eq_true rfl⟩ (yPv (yK_bl G) (yK_mv G) hK hK.1 hW (by omega) lay_12 rfl (by omega) (by omega)) rfl hl.1 rfl (Nat.le_of_ble_eq_true rfl) d_Spend_fill_57 ⟨Nat.zero_le _, Nat.zero_le _⟩) hS hW (fun H locs hW hS => ?_)
  rw [y2_cl (show 13 ≠ (46 + 2 * q) by omega), y2_cl (show 13 ≠ (46 + 2 * q) by omega), y2_cl (show 13 ≠ (46 + 2 * q) by omega), y2_cl (show 13 ≠ (46 + 2 * q) by omega), y2_cl (show 13 ≠ (46 + 2 * q) by omega), y2_cl (show 13 ≠ (46 + 2 * q) by omega)]
  refine y_puti hx hb hA in_Spend hown hK.1 hW (46 + 2 * q) (by omega) (lay_Spend (n := q) (by omega)) rfl 7 (by decide) t_Spend tk_Spend nm_Spend hS hAr (hA _ k_fl_Spend_53) rfl (by decide +kernel) rfl d_Spend_fill_60 (fun H locs hW hS => ?_)
  refine lv_aload_n hx hb d_Spend_fill_63 rfl (lv_at hl 2 rfl) ?_
  refine lv_iload hx hb d_Spend_fill_64 (lv_at hl 4 rfl) ?_
  refine lv_aload_n hx hb d_Spend_fill_66 rfl (lv_at hl 0 rfl) ?_
  refine y_getr hx hb hA in_Spend hown hK.1 hW (46 + 2 * q) (by omega) (lay_Spend (n := q) (by omega)) rfl 6 (by decide) (hA _ k_fl_Spend_9) rfl d_Spend_fill_67 ?_
  refine y_ch (y_runV (As := [.int (J ((i : Int))), .ref (z + (46 + 2 * q + 1))]) (rest := []) ⟨hx, hb, hml, hown, hts⟩ (c_Tree_copyPath l G z (y2 (y2 (y2 (y2 (y2 (y2 (y2 σ (46 + 2 * q) 2 ((i : Int))) (46 + 2 * q) 0 (σ (53 + 5 * k) 0)) (46 + 2 * q) 1 (σ (53 + 5 * k) 1)) (46 + 2 * q) 3 (σ (53 + 5 * k + 2) i)) (46 + 2 * q) 4 (σ (53 + 5 * k + 3) i)) (46 + 2 * q) 8 (σ (53 + 5 * k + 4) i)) (46 + 2 * q) 7 (σ 13 30)) q hq i hi) 2 k_co_Tree_copyPath k_ml_Spend_56 k_im_Tree_copyPath k_se_Tree_copyPath k_in_Tree rfl rfl (by decide +kernel) ⟨Nat.le_of_ble_eq_true rfl, Nat.le_of_ble_eq_true rfl⟩ (yPv (yK_bl G) (yK_mv G) hK hK.1 hW (by omega) lay_12 rfl (by omega) (by omega)) rfl hl.1 rfl (Nat.le_of_ble_eq_true rfl) d_Spend_fill_70 ⟨Nat.zero_le _, Nat.zero_le _⟩) hS hAr (fun τ70 H locs hp70 hk70 hW hS => ?_)
  refine lv_aload_n hx hb d_Spend_fill_73 rfl (lv_at hl 0 rfl) ?_
  refine lv_iload hx hb d_Spend_fill_74 (lv_at hl 5 rfl) ?_
  refine y_puti hx hb hA in_Spend hown hK.1 hW (46 + 2 * q) (by omega) (lay_Spend (n := q) (by omega)) rfl 5 (by decide) t_Spend tk_Spend nm_Spend hS hAr (hA _ k_fl_Spend_60) rfl (by decide +kernel) rfl d_Spend_fill_76 (fun H locs hW hS => ?_)
  refine lv_aload_n hx hb d_Spend_fill_79 rfl (lv_at hl 0 rfl) ?_
  refine lv_aload_n hx hb d_Spend_fill_80 rfl (lv_at hl 1 rfl) ?_
  refine lv_aload_n hx hb d_Spend_fill_81 rfl (lv_at hl 0 rfl) ?_
  refine y_geti hx hb hA in_Spend hown hK.1 hW (46 + 2 * q) (by omega) (lay_Spend (n := q) (by omega)) rfl 3 (by decide) (hA _ k_fl_Spend_32) rfl d_Spend_fill_82 ?_
  rw [y2_ot (by decide), hp70.1 (46 + 2 * q) (by omega), y2_ot (by decide), y2_ot (by decide), y2_ot (by decide), y2_at]
  refine lv_iload hx hb d_Spend_fill_85 (lv_at hl 5 rfl) ?_
  refine y_ci (y_runV (As := [.int (J (σ (53 + 5 * k + 2) i)), .int (J (w0))]) (rest := [.ref (z + (46 + 2 * q))]) ⟨hx, hb, hml, hown, hts⟩ (c_Bases_cover l G z (y2 τ70 (46 + 2 * q) 5 (w0)) (yBs_y2 (by omega) (yBs_to (yBs_y2 (by omega) (yBs_y2 (by omega) (yBs_y2 (by omega) (yBs_y2 (by omega) (yBs_y2 (by omega) (yBs_y2 (by omega) (yBs_y2 (by omega) hBs))))))) (hp70.1 3 (by omega)) (hp70.1 5 (by omega)) (hp70.1 7 (by omega)) (hp70.1 9 (by omega)) (hp70.1 11 (by omega)))) (σ (53 + 5 * k + 2) i) (w0) hv0 hw0) 2 k_co_Bases_cover k_ml_Spend_63 k_im_Bases_cover k_se_Bases_cover k_in_Bases rfl rfl (by decide +kernel) ⟨Nat.le_of_ble_eq_true rfl, Nat.le_of_ble_eq_true rfl⟩ (yPv (yK_bl G) (yK_mv G) hK hK.1 hW (by omega) lay_1 rfl (by omega) (by omega)) rfl hl.1 rfl (Nat.le_of_ble_eq_true rfl) d_Spend_fill_87 ⟨Nat.zero_le _, Nat.zero_le _⟩) hS hW (fun H locs hW hS => ?_)
  refine y_puti hx hb hA in_Spend hown hK.1 hW (46 + 2 * q) (by omega) (lay_Spend (n := q) (by omega)) rfl 9 (by decide) t_Spend tk_Spend nm_Spend hS hAr (hA _ k_fl_Spend_69) rfl (by decide +kernel) rfl d_Spend_fill_90 (fun H locs hW hS => ?_)
  exact y_reth hx hb hr hlocks hS hW (by
    refine ⟨fun d h1 h2 => ?_, ?_, ?_, ?_, ?_, ?_, ?_, ?_, ?_, ?_, fun L hL => ?_⟩
    · rw [y2_ne h1, y2_ne h1, hp70.1 d h2, y2_ne h1, y2_ne h1, y2_ne h1, y2_ne h1, y2_ne h1, y2_ne h1, y2_ne h1]
    · rw [y2_ot (by decide), y2_ot (by decide), hp70.1 (46 + 2 * q) (by omega), y2_ot (by decide), y2_ot (by decide), y2_ot (by decide), y2_ot (by decide), y2_ot (by decide), y2_at]
    · rw [y2_ot (by decide), y2_ot (by decide), hp70.1 (46 + 2 * q) (by omega), y2_ot (by decide), y2_ot (by decide), y2_ot (by decide), y2_ot (by decide), y2_at]
    · rw [y2_ot (by decide), y2_ot (by decide), hp70.1 (46 + 2 * q) (by omega), y2_ot (by decide), y2_ot (by decide), y2_ot (by decide), y2_ot (by decide), y2_ot (by decide), y2_ot (by decide), y2_at]
    · rw [y2_ot (by decide), y2_ot (by decide), hp70.1 (46 + 2 * q) (by omega), y2_ot (by decide), y2_ot (by decide), y2_ot (by decide), y2_at]
    · rw [y2_ot (by decide), y2_ot (by decide), hp70.1 (46 + 2 * q) (by omega), y2_ot (by decide), y2_ot (by decide), y2_at]
    · rw [y2_ot (by decide), y2_at]
    · rw [y2_ot (by decide), y2_ot (by decide), hp70.1 (46 + 2 * q) (by omega), y2_at]
    · rw [y2_ot (by decide), y2_ot (by decide), hp70.1 (46 + 2 * q) (by omega), y2_ot (by decide), y2_at]
    · rw [y2_at]
    · rw [y2_cl (by omega), y2_cl (by omega), hp70.2 L hL, y2_cl (by omega), y2_cl (by omega), y2_cl (by omega), y2_cl (by omega), y2_cl (by omega), y2_cl (by omega), y2_cl (by omega)]) d_Spend_fill_93

set_option maxHeartbeats 4000000 in
set_option maxRecDepth 100000 in
theorem c_Spend_change (l : Launch) (G : yG) (z : Nat) (σ : yM) (hBs : yBs σ) (q : Nat) (hq : q < 2) (what x : Int) (hx0 : jr x) (hwh : 0 ≤ what ∧ what ≤ 2) (hc5 : jr (σ (46 + 2 * q) 5)) : Met l y_Spend_change (Cond.code y_Spend_change b_Spend_change 4 (some .boolean) :: yT) ({ frames := 4, cells := 0, slots := 0, locals := 100 } : Room) (yP ycl G yLP 0 73 z σ (yK G) [.ref (z + (46 + 2 * q)), .ref (z + 1), .int (J (what)), .int (J (x))]) (yQg ycl G yLP 0 73 z (fun v τ => (((what = 2 ∧ 0 ≤ x ∧ x < 1000) ∨ (what ≠ 2 ∧ 0 ≤ x ∧ x < 10009)) → v = 1 ∧ (what = 0 → τ = y2 σ (46 + 2 * q) 7 x) ∧ (what = 1 → τ = y2 σ (46 + 2 * q) 8 x) ∧ (what = 2 → τ = y2 (y2 σ (46 + 2 * q) 3 x) (46 + 2 * q) 9 (eE (1281 * x + 1369 * σ (46 + 2 * q) 5)))) ∧ (¬ ((what = 2 ∧ 0 ≤ x ∧ x < 1000) ∨ (what ≠ 2 ∧ 0 ≤ x ∧ x < 10009)) → v = 0 ∧ τ = σ))) 0 0 (yA z 0 73) := by
  refine y_met (by decide +kernel) (Nat.le_of_ble_eq_true rfl) ?_
  intro p e s m below meth c ls hx hb hr hml hlocks hown hname hts hv hl
  have hA : ∀ w ∈ yT, w.before _ s = true := fun w h => hts w (List.mem_cons_of_mem _ h)
  have hl : lv_has ls 4 [(0, .ref (z + (46 + 2 * q))), (1, .ref (z + 1)), (2, .int (J (what))), (3, .int (J (x)))] := hl
  obtain ⟨hW, hK⟩ := hv
  have hS : va_S (yA z 0 73) s.heap s.heap [] := va_S.rf
  have hAr : ∀ d, 0 ≤ d ∧ d < 0 + 73 → yA z 0 73 (z + d) := yA_all
  refine lv_iload_n hx hb d_Spend_change_0 rfl (lv_at hl 2 rfl) ?_
  refine lv_iconst (v := J (2)) hx hb d_Spend_change_1 rfl ?_
  refine y_icmp_ne (tgt := 15) hx hb d_Spend_change_2 (by decide) ⟨by omega, by omega⟩ ⟨by omega, by omega⟩ (fun hc1 => ?_) (fun hc1 => ?_)
  · skip
    refine lv_iload_n hx hb d_Spend_change_15 rfl (lv_at hl 3 rfl) ?_
    refine y_ci (y_runSN (As := [.int (J (x))]) (rest := []) ⟨hx, hb, hml, hown, hts⟩ (c_P_isFieldNumber l G (x) hx0) 1 k_co_P_isFieldNumber (k_ml_Spend_75 hK.2) k_st_P_isFieldNumber k_in_P rfl rfl (by decide +kernel) ⟨Nat.le_of_ble_eq_true rfl, Nat.le_of_ble_eq_true rfl⟩ (yPs0 (yK_bl G) (yK_mv G) hK) rfl hl.1 rfl (Nat.le_of_ble_eq_true rfl) d_Spend_change_16 ⟨Nat.zero_le _, Nat.zero_le _⟩) hS hW (fun H locs hW hS => ?_)
    by_cases hq16 : 0 ≤ x ∧ x < 10009
    · skip
      rw [if_pos hq16]
      refine y_if_ne (tgt := 24) hx hb d_Spend_change_19 (by decide) ⟨by omega, by omega⟩ (fun hc2 => ?_) (fun hc2 => absurd hc2 (by decide))
      refine lv_iload_n hx hb d_Spend_change_24 rfl (lv_at hl 2 rfl) ?_
      refine y_if_ne (tgt := 36) hx hb d_Spend_change_25 (by decide) ⟨by omega, by omega⟩ (fun hc3 => ?_) (fun hc3 => ?_)
      · skip
        refine lv_iload_n hx hb d_Spend_change_36 rfl (lv_at hl 2 rfl) ?_
        refine lv_iconst (v := J (1)) hx hb d_Spend_change_37 rfl ?_
        refine y_icmp_ne (tgt := 49) hx hb d_Spend_change_38 (by decide) ⟨by omega, by omega⟩ ⟨by omega, by omega⟩ (fun hc4 => ?_) (fun hc4 => ?_)
        · skip
          refine lv_aload_n hx hb d_Spend_change_49 rfl (lv_at hl 0 rfl) ?_
          refine lv_iload_n hx hb d_Spend_change_50 rfl (lv_at hl 3 rfl) ?_
          refine y_puti hx hb hA in_Spend hown hK.1 hW (46 + 2 * q) (by omega) (lay_Spend (n := q) (by omega)) rfl 3 (by decide) t_Spend tk_Spend nm_Spend hS hAr (hA _ k_fl_Spend_32) rfl (by decide +kernel) rfl d_Spend_change_51 (fun H locs hW hS => ?_)
          refine lv_aload_n hx hb d_Spend_change_54 rfl (lv_at hl 0 rfl) ?_
          refine lv_aload_n hx hb d_Spend_change_55 rfl (lv_at hl 1 rfl) ?_
          refine lv_iload_n hx hb d_Spend_change_56 rfl (lv_at hl 3 rfl) ?_
          refine lv_aload_n hx hb d_Spend_change_57 rfl (lv_at hl 0 rfl) ?_
          refine y_geti hx hb hA in_Spend hown hK.1 hW (46 + 2 * q) (by omega) (lay_Spend (n := q) (by omega)) rfl 5 (by decide) (hA _ k_fl_Spend_60) rfl d_Spend_change_58 ?_
          rw [y2_ot (by decide)]
          refine y_ci (y_runV (As := [.int (J (x)), .int (J (σ (46 + 2 * q) 5))]) (rest := [.ref (z + (46 + 2 * q))]) ⟨hx, hb, hml, hown, hts⟩ (c_Bases_cover l G z (y2 σ (46 + 2 * q) 3 (x)) (yBs_y2 (by omega) hBs) (x) (σ (46 + 2 * q) 5) hx0 hc5) 2 k_co_Bases_cover k_ml_Spend_63 k_im_Bases_cover k_se_Bases_cover k_in_Bases rfl rfl (by decide +kernel) ⟨Nat.le_of_ble_eq_true rfl, Nat.le_of_ble_eq_true rfl⟩ (yPv (yK_bl G) (yK_mv G) hK hK.1 hW (by omega) lay_1 rfl (by omega) (by omega)) rfl hl.1 rfl (Nat.le_of_ble_eq_true rfl) d_Spend_change_61 ⟨Nat.zero_le _, Nat.zero_le _⟩) hS hW (fun H locs hW hS => ?_)
          refine y_puti hx hb hA in_Spend hown hK.1 hW (46 + 2 * q) (by omega) (lay_Spend (n := q) (by omega)) rfl 9 (by decide) t_Spend tk_Spend nm_Spend hS hAr (hA _ k_fl_Spend_69) rfl (by decide +kernel) rfl d_Spend_change_64 (fun H locs hW hS => ?_)
          refine lv_iconst (v := J (1)) hx hb d_Spend_change_67 rfl ?_
          exact y_retgz hx hb hr hlocks hS hW (Or.inr rfl) ⟨fun _ => ⟨rfl, fun h => by first | rfl | omega, fun h => by first | rfl | omega, fun h => by first | rfl | omega⟩, fun h => absurd (by omega) h⟩ d_Spend_change_68
        · skip
          refine lv_aload_n hx hb d_Spend_change_41 rfl (lv_at hl 0 rfl) ?_
          refine lv_iload_n hx hb d_Spend_change_42 rfl (lv_at hl 3 rfl) ?_
          refine y_puti hx hb hA in_Spend hown hK.1 hW (46 + 2 * q) (by omega) (lay_Spend (n := q) (by omega)) rfl 8 (by decide) t_Spend tk_Spend nm_Spend hS hAr (hA _ k_fl_Spend_44) rfl (by decide +kernel) rfl d_Spend_change_43 (fun H locs hW hS => ?_)
          refine lv_goto (tgt := 67) hx hb d_Spend_change_46 (by decide) ?_
          refine lv_iconst (v := J (1)) hx hb d_Spend_change_67 rfl ?_
          exact y_retgz hx hb hr hlocks hS hW (Or.inr rfl) ⟨fun _ => ⟨rfl, fun h => by first | rfl | omega, fun h => by first | rfl | omega, fun h => by first | rfl | omega⟩, fun h => absurd (by omega) h⟩ d_Spend_change_68
      · skip
        refine lv_aload_n hx hb d_Spend_change_28 rfl (lv_at hl 0 rfl) ?_
        refine lv_iload_n hx hb d_Spend_change_29 rfl (lv_at hl 3 rfl) ?_
        refine y_puti hx hb hA in_Spend hown hK.1 hW (46 + 2 * q) (by omega) (lay_Spend (n := q) (by omega)) rfl 7 (by decide) t_Spend tk_Spend nm_Spend hS hAr (hA _ k_fl_Spend_53) rfl (by decide +kernel) rfl d_Spend_change_30 (fun H locs hW hS => ?_)
        refine lv_goto (tgt := 67) hx hb d_Spend_change_33 (by decide) ?_
        refine lv_iconst (v := J (1)) hx hb d_Spend_change_67 rfl ?_
        exact y_retgz hx hb hr hlocks hS hW (Or.inr rfl) ⟨fun _ => ⟨rfl, fun h => by first | rfl | omega, fun h => by first | rfl | omega, fun h => by first | rfl | omega⟩, fun h => absurd (by omega) h⟩ d_Spend_change_68
    · skip
      rw [if_neg hq16]
      refine y_if_ne (tgt := 24) hx hb d_Spend_change_19 (by decide) ⟨by omega, by omega⟩ (fun hc5 => absurd hc5 (by decide)) (fun hc5 => ?_)
      refine lv_iconst (v := J (0)) hx hb d_Spend_change_22 rfl ?_
      exact y_retgz hx hb hr hlocks hS hW (Or.inl rfl) ⟨fun h => absurd h (by omega), fun _ => ⟨rfl, rfl⟩⟩ d_Spend_change_23
  · skip
    refine lv_iload_n hx hb d_Spend_change_5 rfl (lv_at hl 3 rfl) ?_
    refine y_ci (y_runSN (As := [.int (J (x))]) (rest := []) ⟨hx, hb, hml, hown, hts⟩ (c_P_isValue l G (x) hx0) 1 k_co_P_isValue (k_ml_Spend_71 hK.2) k_st_P_isValue k_in_P rfl rfl (by decide +kernel) ⟨Nat.le_of_ble_eq_true rfl, Nat.le_of_ble_eq_true rfl⟩ (yPs0 (yK_bl G) (yK_mv G) hK) rfl hl.1 rfl (Nat.le_of_ble_eq_true rfl) d_Spend_change_6 ⟨Nat.zero_le _, Nat.zero_le _⟩) hS hW (fun H locs hW hS => ?_)
    by_cases hq6 : 0 ≤ x ∧ x < 1000
    · skip
      rw [if_pos hq6]
      refine y_if_ne (tgt := 24) hx hb d_Spend_change_9 (by decide) ⟨by omega, by omega⟩ (fun hc6 => ?_) (fun hc6 => absurd hc6 (by decide))
      refine lv_iload_n hx hb d_Spend_change_24 rfl (lv_at hl 2 rfl) ?_
      refine y_if_ne (tgt := 36) hx hb d_Spend_change_25 (by decide) ⟨by omega, by omega⟩ (fun hc7 => ?_) (fun hc7 => ?_)
      · skip
        refine lv_iload_n hx hb d_Spend_change_36 rfl (lv_at hl 2 rfl) ?_
        refine lv_iconst (v := J (1)) hx hb d_Spend_change_37 rfl ?_
        refine y_icmp_ne (tgt := 49) hx hb d_Spend_change_38 (by decide) ⟨by omega, by omega⟩ ⟨by omega, by omega⟩ (fun hc8 => ?_) (fun hc8 => ?_)
        · skip
          refine lv_aload_n hx hb d_Spend_change_49 rfl (lv_at hl 0 rfl) ?_
          refine lv_iload_n hx hb d_Spend_change_50 rfl (lv_at hl 3 rfl) ?_
          refine y_puti hx hb hA in_Spend hown hK.1 hW (46 + 2 * q) (by omega) (lay_Spend (n := q) (by omega)) rfl 3 (by decide) t_Spend tk_Spend nm_Spend hS hAr (hA _ k_fl_Spend_32) rfl (by decide +kernel) rfl d_Spend_change_51 (fun H locs hW hS => ?_)
          refine lv_aload_n hx hb d_Spend_change_54 rfl (lv_at hl 0 rfl) ?_
          refine lv_aload_n hx hb d_Spend_change_55 rfl (lv_at hl 1 rfl) ?_
          refine lv_iload_n hx hb d_Spend_change_56 rfl (lv_at hl 3 rfl) ?_
          refine lv_aload_n hx hb d_Spend_change_57 rfl (lv_at hl 0 rfl) ?_
          refine y_geti hx hb hA in_Spend hown hK.1 hW (46 + 2 * q) (by omega) (lay_Spend (n := q) (by omega)) rfl 5 (by decide) (hA _ k_fl_Spend_60) rfl d_Spend_change_58 ?_
          rw [y2_ot (by decide)]
          refine y_ci (y_runV (As := [.int (J (x)), .int (J (σ (46 + 2 * q) 5))]) (rest := [.ref (z + (46 + 2 * q))]) ⟨hx, hb, hml, hown, hts⟩ (c_Bases_cover l G z (y2 σ (46 + 2 * q) 3 (x)) (yBs_y2 (by omega) hBs) (x) (σ (46 + 2 * q) 5) hx0 hc5) 2 k_co_Bases_cover k_ml_Spend_63 k_im_Bases_cover k_se_Bases_cover k_in_Bases rfl rfl (by decide +kernel) ⟨Nat.le_of_ble_eq_true rfl, Nat.le_of_ble_eq_true rfl⟩ (yPv (yK_bl G) (yK_mv G) hK hK.1 hW (by omega) lay_1 rfl (by omega) (by omega)) rfl hl.1 rfl (Nat.le_of_ble_eq_true rfl) d_Spend_change_61 ⟨Nat.zero_le _, Nat.zero_le _⟩) hS hW (fun H locs hW hS => ?_)
          refine y_puti hx hb hA in_Spend hown hK.1 hW (46 + 2 * q) (by omega) (lay_Spend (n := q) (by omega)) rfl 9 (by decide) t_Spend tk_Spend nm_Spend hS hAr (hA _ k_fl_Spend_69) rfl (by decide +kernel) rfl d_Spend_change_64 (fun H locs hW hS => ?_)
          refine lv_iconst (v := J (1)) hx hb d_Spend_change_67 rfl ?_
          exact y_retgz hx hb hr hlocks hS hW (Or.inr rfl) ⟨fun _ => ⟨rfl, fun h => by first | rfl | omega, fun h => by first | rfl | omega, fun h => by first | rfl | omega⟩, fun h => absurd (by omega) h⟩ d_Spend_change_68
        · skip
          refine lv_aload_n hx hb d_Spend_change_41 rfl (lv_at hl 0 rfl) ?_
          refine lv_iload_n hx hb d_Spend_change_42 rfl (lv_at hl 3 rfl) ?_
          refine y_puti hx hb hA in_Spend hown hK.1 hW (46 + 2 * q) (by omega) (lay_Spend (n := q) (by omega)) rfl 8 (by decide) t_Spend tk_Spend nm_Spend hS hAr (hA _ k_fl_Spend_44) rfl (by decide +kernel) rfl d_Spend_change_43 (fun H locs hW hS => ?_)
          refine lv_goto (tgt := 67) hx hb d_Spend_change_46 (by decide) ?_
          refine lv_iconst (v := J (1)) hx hb d_Spend_change_67 rfl ?_
          exact y_retgz hx hb hr hlocks hS hW (Or.inr rfl) ⟨fun _ => ⟨rfl, fun h => by first | rfl | omega, fun h => by first | rfl | omega, fun h => by first | rfl | omega⟩, fun h => absurd (by omega) h⟩ d_Spend_change_68
      · skip
        refine lv_aload_n hx hb d_Spend_change_28 rfl (lv_at hl 0 rfl) ?_
        refine lv_iload_n hx hb d_Spend_change_29 rfl (lv_at hl 3 rfl) ?_
        refine y_puti hx hb hA in_Spend hown hK.1 hW (46 + 2 * q) (by omega) (lay_Spend (n := q) (by omega)) rfl 7 (by decide) t_Spend tk_Spend nm_Spend hS hAr (hA _ k_fl_Spend_53) rfl (by decide +kernel) rfl d_Spend_change_30 (fun H locs hW hS => ?_)
        refine lv_goto (tgt := 67) hx hb d_Spend_change_33 (by decide) ?_
        refine lv_iconst (v := J (1)) hx hb d_Spend_change_67 rfl ?_
        exact y_retgz hx hb hr hlocks hS hW (Or.inr rfl) ⟨fun _ => ⟨rfl, fun h => by first | rfl | omega, fun h => by first | rfl | omega, fun h => by first | rfl | omega⟩, fun h => absurd (by omega) h⟩ d_Spend_change_68
    · skip
      rw [if_neg hq6]
      refine y_if_ne (tgt := 24) hx hb d_Spend_change_9 (by decide) ⟨by omega, by omega⟩ (fun hc9 => absurd hc9 (by decide)) (fun hc9 => ?_)
      refine lv_goto (tgt := 22) hx hb d_Spend_change_12 (by decide) ?_
      refine lv_iconst (v := J (0)) hx hb d_Spend_change_22 rfl ?_
      exact y_retgz hx hb hr hlocks hS hW (Or.inl rfl) ⟨fun h => absurd h (by omega), fun _ => ⟨rfl, rfl⟩⟩ d_Spend_change_23

set_option maxHeartbeats 4000000 in
set_option maxRecDepth 100000 in
theorem c_Spend_isProven (l : Launch) (G : yG) (z : Nat) (σ : yM) (hBs : yBs σ) (q : Nat) (hq : q < 2) (i : Nat) (hi : i < 16) (a s0 : Int) (ha : σ (46 + 2 * q) 1 = eE a) (hs : σ (46 + 2 * q) 0 = s0) (hsr : jr s0) (hlf : σ (46 + 2 * q) 2 = (i : Int)) (hv : jr (σ (46 + 2 * q) 3)) (ht : jr (σ (46 + 2 * q) 4)) (hp : ∀ L, L < 4 → jr (σ (46 + 2 * q + 1) L)) (han : jr (σ (46 + 2 * q) 7)) (hnu : jr (σ (46 + 2 * q) 8)) : Met l y_Spend_isProven (Cond.code y_Spend_isProven b_Spend_isProven 7 (some .boolean) :: yT) ({ frames := 4, cells := 0, slots := 0, locals := 102 } : Room) (yP ycl G yLP 0 73 z σ (yK G) [.ref (z + (46 + 2 * q)), .ref (z + 1)]) (yQi (if pth i (σ (46 + 2 * q + 1)) (cOf a (σ (46 + 2 * q) 3) (σ (46 + 2 * q) 4)) 4 = σ (46 + 2 * q) 7 ∧ σ (46 + 2 * q) 8 = nOf s0 (i : Int) then 1 else 0)) 0 0 yN := by
  refine y_met (by decide +kernel) (Nat.le_of_ble_eq_true rfl) ?_
  intro p e s m below meth c ls hx hb hr hml hlocks hown hname hts hv hl
  have hA : ∀ w ∈ yT, w.before _ s = true := fun w h => hts w (List.mem_cons_of_mem _ h)
  have hl : lv_has ls 7 [(0, .ref (z + (46 + 2 * q))), (1, .ref (z + 1))] := hl
  obtain ⟨hW, hK⟩ := hv
  have hS : va_S yN s.heap s.heap [] := va_S.rf
  refine lv_aload_n hx hb d_Spend_isProven_0 rfl (lv_at hl 1 rfl) ?_
  refine lv_aload_n hx hb d_Spend_isProven_1 rfl (lv_at hl 0 rfl) ?_
  refine y_geti hx hb hA in_Spend hown hK.1 hW (46 + 2 * q) (by omega) (lay_Spend (n := q) (by omega)) rfl 1 (by decide) (hA _ k_fl_Spend_28) rfl d_Spend_isProven_2 ?_
  rw [ha]
  refine lv_aload_n hx hb d_Spend_isProven_5 rfl (lv_at hl 0 rfl) ?_
  refine y_geti hx hb hA in_Spend hown hK.1 hW (46 + 2 * q) (by omega) (lay_Spend (n := q) (by omega)) rfl 3 (by decide) (hA _ k_fl_Spend_32) rfl d_Spend_isProven_6 ?_
  refine lv_aload_n hx hb d_Spend_isProven_9 rfl (lv_at hl 0 rfl) ?_
  refine y_geti hx hb hA in_Spend hown hK.1 hW (46 + 2 * q) (by omega) (lay_Spend (n := q) (by omega)) rfl 4 (by decide) (hA _ k_fl_Spend_38) rfl d_Spend_isProven_10 ?_
  refine y_ci (y_runV (As := [.int (J (eE a)), .int (J (σ (46 + 2 * q) 3)), .int (J (σ (46 + 2 * q) 4))]) (rest := []) ⟨hx, hb, hml, hown, hts⟩ (c_Bases_commitment l G z σ hBs a (σ (46 + 2 * q) 3) (σ (46 + 2 * q) 4) hv ht) 3 k_co_Bases_commitment k_ml_Spend_78 k_im_Bases_commitment k_se_Bases_commitment k_in_Bases rfl rfl (by decide +kernel) ⟨Nat.le_of_ble_eq_true rfl, Nat.le_of_ble_eq_true rfl⟩ (yPv (yK_bl G) (yK_mv G) hK hK.1 hW (by omega) lay_1 rfl (by omega) (by omega)) rfl hl.1 rfl (Nat.le_of_ble_eq_true rfl) d_Spend_isProven_13 ⟨Nat.zero_le _, Nat.zero_le _⟩) hS hW (fun H locs hW hS => ?_)
  rw [show eX (1281 * σ (46 + 2 * q) 3 + 1369 * σ (46 + 2 * q) 4 + a) = (cOf a (σ (46 + 2 * q) 3) (σ (46 + 2 * q) 4)) from rfl]
  refine lv_istore_n (lv' := [(2, .int (J (cOf a (σ (46 + 2 * q) 3) (σ (46 + 2 * q) 4)))), (0, .ref (z + (46 + 2 * q))), (1, .ref (z + 1))]) hx hb d_Spend_isProven_16 rfl hl (by decide) rfl (fun ls hl => ?_)
  refine lv_iconst (v := J (0)) hx hb d_Spend_isProven_17 rfl ?_
  refine lv_istore_n (lv' := [(3, .int (J (0))), (2, .int (J (cOf a (σ (46 + 2 * q) 3) (σ (46 + 2 * q) 4)))), (0, .ref (z + (46 + 2 * q))), (1, .ref (z + 1))]) hx hb d_Spend_isProven_18 rfl hl (by decide) rfl (fun ls hl => ?_)
  have hcr := cOf_rng a (σ (46 + 2 * q) 3) (σ (46 + 2 * q) 4)
  have loop : ∀ (k M : Nat), M + k = 4 → ∀ (ls : Array Slot) (H : Heap) (locs : List Loc), yW ycl G yLP 0 73 z σ H → va_S yN s.heap H locs → lv_has ls 7 [(3, .int (J ((M : Int)))), (2, .int (J (pth i (σ (46 + 2 * q + 1)) (cOf a (σ (46 + 2 * q) 3) (σ (46 + 2 * q) 4)) M))), (0, .ref (z + (46 + 2 * q))), (1, .ref (z + 1))] → W p l e ({ frames := 4, cells := 0, slots := 0, locals := 102 } : Room) s m ([.ref (z + (46 + 2 * q)), .ref (z + 1)] : List Value).toArray below meth c H locs 0 0 (MQ below (yQi (if pth i (σ (46 + 2 * q + 1)) (cOf a (σ (46 + 2 * q) 3) (σ (46 + 2 * q) 4)) 4 = σ (46 + 2 * q) 7 ∧ σ (46 + 2 * q) 8 = nOf s0 (i : Int) then 1 else 0)) ([.ref (z + (46 + 2 * q)), .ref (z + 1)] : List Value).toArray s 0 0 yN) (F0 m 19 ls []) := by
    intro k
    induction k with
    | zero =>
      intro M hMk ls H locs hW hS hl
      have hM4 : M = 4 := by omega
      subst hM4
      have hr4 := pth_rng (leaf := i) (p := σ (46 + 2 * q + 1)) hcr 4
      have hn4 := nOf_rng s0 (i : Int)
      unfold nOf at hn4
      refine lv_iload_n hx hb d_Spend_isProven_19 rfl (lv_at hl 0 rfl) ?_
      refine lv_iconst (v := J (4)) hx hb d_Spend_isProven_20 rfl ?_
      refine y_icmp_ge (tgt := 95) hx hb d_Spend_isProven_21 (by decide) ⟨by omega, by omega⟩ ⟨by omega, by omega⟩ (fun hc1 => ?_) (fun hc1 => absurd hc1 (by omega))
      refine lv_iload_n hx hb d_Spend_isProven_95 rfl (lv_at hl 1 rfl) ?_
      refine lv_aload_n hx hb d_Spend_isProven_96 rfl (lv_at hl 2 rfl) ?_
      refine y_geti hx hb hA in_Spend hown hK.1 hW (46 + 2 * q) (by omega) (lay_Spend (n := q) (by omega)) rfl 7 (by decide) (hA _ k_fl_Spend_53) rfl d_Spend_isProven_97 ?_
      refine y_icmp_ne (tgt := 126) hx hb d_Spend_isProven_100 (by decide) ⟨by omega, by omega⟩ ⟨by omega, by omega⟩ (fun hc2 => ?_) (fun hc2 => ?_)
      · skip
        refine lv_iconst (v := J (0)) hx hb d_Spend_isProven_126 rfl ?_
        exact y_retz hx hb hr hlocks hS (Or.inl rfl) (by first | exact (if_pos ⟨by omega, by unfold nOf; omega⟩).symm | exact (if_neg (by unfold nOf; omega)).symm) d_Spend_isProven_127
      · skip
        refine lv_aload_n hx hb d_Spend_isProven_103 rfl (lv_at hl 2 rfl) ?_
        refine y_geti hx hb hA in_Spend hown hK.1 hW (46 + 2 * q) (by omega) (lay_Spend (n := q) (by omega)) rfl 8 (by decide) (hA _ k_fl_Spend_44) rfl d_Spend_isProven_104 ?_
        refine lv_aload_n hx hb d_Spend_isProven_107 rfl (lv_at hl 3 rfl) ?_
        refine lv_aload_n hx hb d_Spend_isProven_108 rfl (lv_at hl 2 rfl) ?_
        refine y_geti hx hb hA in_Spend hown hK.1 hW (46 + 2 * q) (by omega) (lay_Spend (n := q) (by omega)) rfl 0 (by decide) (hA _ k_fl_Spend_24) rfl d_Spend_isProven_109 ?_
        rw [hs]
        refine lv_aload_n hx hb d_Spend_isProven_112 rfl (lv_at hl 2 rfl) ?_
        refine y_geti hx hb hA in_Spend hown hK.1 hW (46 + 2 * q) (by omega) (lay_Spend (n := q) (by omega)) rfl 2 (by decide) (hA _ k_fl_Spend_15) rfl d_Spend_isProven_113 ?_
        rw [hlf]
        refine y_ci (y_runV (As := [.int (J (s0)), .int (J ((i : Int)))]) (rest := [.int (J (σ (46 + 2 * q) 8))]) ⟨hx, hb, hml, hown, hts⟩ (c_Bases_nullifier l G z σ hBs (s0) ((i : Int)) hsr ⟨by omega, by omega⟩) 2 k_co_Bases_nullifier k_ml_Spend_85 k_im_Bases_nullifier k_se_Bases_nullifier k_in_Bases rfl rfl (by decide +kernel) ⟨Nat.le_of_ble_eq_true rfl, Nat.le_of_ble_eq_true rfl⟩ (yPv (yK_bl G) (yK_mv G) hK hK.1 hW (by omega) lay_1 rfl (by omega) (by omega)) rfl hl.1 rfl (Nat.le_of_ble_eq_true rfl) d_Spend_isProven_116 ⟨Nat.zero_le _, Nat.zero_le _⟩) hS hW (fun H locs hW hS => ?_)
        refine y_icmp_ne (tgt := 126) hx hb d_Spend_isProven_119 (by decide) ⟨by omega, by omega⟩ ⟨by omega, by omega⟩ (fun hc3 => ?_) (fun hc3 => ?_)
        · skip
          refine lv_iconst (v := J (0)) hx hb d_Spend_isProven_126 rfl ?_
          exact y_retz hx hb hr hlocks hS (Or.inl rfl) (by first | exact (if_pos ⟨by omega, by unfold nOf; omega⟩).symm | exact (if_neg (by unfold nOf; omega)).symm) d_Spend_isProven_127
        · skip
          refine lv_iconst (v := J (1)) hx hb d_Spend_isProven_122 rfl ?_
          refine lv_goto (tgt := 127) hx hb d_Spend_isProven_123 (by decide) ?_
          exact y_retz hx hb hr hlocks hS (Or.inr rfl) (by first | exact (if_pos ⟨by omega, by unfold nOf; omega⟩).symm | exact (if_neg (by unfold nOf; omega)).symm) d_Spend_isProven_127
    | succ k ih =>
      intro M hMk ls H locs hW hS hl
      have hdiv : (i : Int) / 2 ^ M = ((i / 2 ^ M : Nat) : Int) := by rw [Int.natCast_ediv, Int.natCast_pow]; rfl
      have hdle : i / 2 ^ M ≤ i := Nat.div_le_self _ _
      have hrM := pth_rng (leaf := i) (p := σ (46 + 2 * q + 1)) hcr M
      have hpM := hp M (by omega)
      refine lv_iload_n hx hb d_Spend_isProven_19 rfl (lv_at hl 0 rfl) ?_
      refine lv_iconst (v := J (4)) hx hb d_Spend_isProven_20 rfl ?_
      refine y_icmp_ge (tgt := 95) hx hb d_Spend_isProven_21 (by decide) ⟨by omega, by omega⟩ ⟨by omega, by omega⟩ (fun hc4 => absurd hc4 (by omega)) (fun hc4 => ?_)
      refine lv_aload_n hx hb d_Spend_isProven_24 rfl (lv_at hl 2 rfl) ?_
      refine y_geti hx hb hA in_Spend hown hK.1 hW (46 + 2 * q) (by omega) (lay_Spend (n := q) (by omega)) rfl 2 (by decide) (hA _ k_fl_Spend_15) rfl d_Spend_isProven_25 ?_
      rw [hlf]
      refine lv_iload_n hx hb d_Spend_isProven_28 rfl (lv_at hl 0 rfl) ?_
      refine y_ishr hx hb d_Spend_isProven_29 M rfl (by omega) (by omega) (by omega) ?_
      refine lv_iconst (v := J (1)) hx hb d_Spend_isProven_30 rfl ?_
      refine y_iand1 hx hb d_Spend_isProven_31 (by rw [hdiv]; exact Int.natCast_nonneg _) (by rw [hdiv]; omega) ?_
      refine lv_iconst (v := J (1)) hx hb d_Spend_isProven_32 rfl ?_
      refine y_icmp_ne (tgt := 40) hx hb d_Spend_isProven_33 (by decide) ⟨by omega, by omega⟩ ⟨by omega, by omega⟩ (fun hbit => ?_) (fun hbit => ?_)
      · skip
        refine lv_iconst (v := J (0)) hx hb d_Spend_isProven_40 rfl ?_
        refine lv_istore (lv' := [(4, .int (J (0))), (3, .int (J ((M : Int)))), (2, .int (J (pth i (σ (46 + 2 * q + 1)) (cOf a (σ (46 + 2 * q) 3) (σ (46 + 2 * q) 4)) M))), (0, .ref (z + (46 + 2 * q))), (1, .ref (z + 1))]) hx hb d_Spend_isProven_41 hl (by decide) rfl (fun ls hl => ?_)
        refine lv_iload hx hb d_Spend_isProven_43 (lv_at hl 0 rfl) ?_
        refine y_if_eq (tgt := 57) hx hb d_Spend_isProven_45 (by decide) ⟨by omega, by omega⟩ (fun hc6 => ?_) (fun hc6 => absurd hc6 (by decide))
        refine lv_iload_n hx hb d_Spend_isProven_57 rfl (lv_at hl 2 rfl) ?_
        refine lv_istore (lv' := [(5, .int (J (pth i (σ (46 + 2 * q + 1)) (cOf a (σ (46 + 2 * q) 3) (σ (46 + 2 * q) 4)) M))), (4, .int (J (0))), (3, .int (J ((M : Int)))), (2, .int (J (pth i (σ (46 + 2 * q + 1)) (cOf a (σ (46 + 2 * q) 3) (σ (46 + 2 * q) 4)) M))), (0, .ref (z + (46 + 2 * q))), (1, .ref (z + 1))]) hx hb d_Spend_isProven_58 hl (by decide) rfl (fun ls hl => ?_)
        refine lv_iload hx hb d_Spend_isProven_60 (lv_at hl 1 rfl) ?_
        refine y_if_eq (tgt := 69) hx hb d_Spend_isProven_62 (by decide) ⟨by omega, by omega⟩ (fun hc7 => ?_) (fun hc7 => absurd hc7 (by decide))
        refine lv_aload_n hx hb d_Spend_isProven_69 rfl (lv_at hl 4 rfl) ?_
        refine y_getr hx hb hA in_Spend hown hK.1 hW (46 + 2 * q) (by omega) (lay_Spend (n := q) (by omega)) rfl 6 (by decide) (hA _ k_fl_Spend_9) rfl d_Spend_isProven_70 ?_
        refine lv_iload_n hx hb d_Spend_isProven_73 rfl (lv_at hl 2 rfl) ?_
        refine y_iald hx hb hK.1 hW (46 + 2 * q + 1) (by omega) (lay_path (n := q) (by omega)) rfl (by decide) M rfl (by omega) d_Spend_isProven_74 ?_
        refine lv_istore (lv' := [(6, .int (J (σ (46 + 2 * q + 1) M))), (5, .int (J (pth i (σ (46 + 2 * q + 1)) (cOf a (σ (46 + 2 * q) 3) (σ (46 + 2 * q) 4)) M))), (4, .int (J (0))), (3, .int (J ((M : Int)))), (2, .int (J (pth i (σ (46 + 2 * q + 1)) (cOf a (σ (46 + 2 * q) 3) (σ (46 + 2 * q) 4)) M))), (0, .ref (z + (46 + 2 * q))), (1, .ref (z + 1))]) hx hb d_Spend_isProven_75 hl (by decide) rfl (fun ls hl => ?_)
        refine lv_aload_n hx hb d_Spend_isProven_77 rfl (lv_at hl 6 rfl) ?_
        refine lv_iload hx hb d_Spend_isProven_78 (lv_at hl 1 rfl) ?_
        refine lv_iload hx hb d_Spend_isProven_80 (lv_at hl 0 rfl) ?_
        refine lv_iload_n hx hb d_Spend_isProven_82 rfl (lv_at hl 3 rfl) ?_
        refine lv_iconst (v := J (1)) hx hb d_Spend_isProven_83 rfl ?_
        refine y_iadd hx hb d_Spend_isProven_84 ?_
        refine y_ci (y_runV (As := [.int (J (pth i (σ (46 + 2 * q + 1)) (cOf a (σ (46 + 2 * q) 3) (σ (46 + 2 * q) 4)) M)), .int (J (σ (46 + 2 * q + 1) M)), .int (J ((M : Int) + 1))]) (rest := []) ⟨hx, hb, hml, hown, hts⟩ (c_Bases_hash l G z σ hBs (pth i (σ (46 + 2 * q + 1)) (cOf a (σ (46 + 2 * q) 3) (σ (46 + 2 * q) 4)) M) (σ (46 + 2 * q + 1) M) ((M : Int) + 1) ⟨by omega, by omega⟩ ⟨by omega, by omega⟩ ⟨by omega, by omega⟩) 3 k_co_Bases_hash k_ml_Spend_82 k_im_Bases_hash k_se_Bases_hash k_in_Bases rfl rfl (by decide +kernel) ⟨Nat.le_of_ble_eq_true rfl, Nat.le_of_ble_eq_true rfl⟩ (yPv (yK_bl G) (yK_mv G) hK hK.1 hW (by omega) lay_1 rfl (by omega) (by omega)) rfl hl.1 rfl (Nat.le_of_ble_eq_true rfl) d_Spend_isProven_85 ⟨Nat.zero_le _, Nat.zero_le _⟩) hS hW (fun H locs hW hS => ?_)
        refine lv_istore_n (lv' := [(2, .int (J (eX (2409 * (pth i (σ (46 + 2 * q + 1)) (cOf a (σ (46 + 2 * q) 3) (σ (46 + 2 * q) 4)) M) + 1499 * (σ (46 + 2 * q + 1) M) + 1 * ((M : Int) + 1))))), (6, .int (J (σ (46 + 2 * q + 1) M))), (5, .int (J (pth i (σ (46 + 2 * q + 1)) (cOf a (σ (46 + 2 * q) 3) (σ (46 + 2 * q) 4)) M))), (4, .int (J (0))), (3, .int (J ((M : Int)))), (0, .ref (z + (46 + 2 * q))), (1, .ref (z + 1))]) hx hb d_Spend_isProven_88 rfl hl (by decide) rfl (fun ls hl => ?_)
        refine lv_iinc (k := 4) (v := J (((M + 1 : Nat) : Int))) (lv' := [(3, .int (J (((M + 1 : Nat) : Int)))), (2, .int (J (eX (2409 * (pth i (σ (46 + 2 * q + 1)) (cOf a (σ (46 + 2 * q) 3) (σ (46 + 2 * q) 4)) M) + 1499 * (σ (46 + 2 * q + 1) M) + 1 * ((M : Int) + 1))))), (6, .int (J (σ (46 + 2 * q + 1) M))), (5, .int (J (pth i (σ (46 + 2 * q + 1)) (cOf a (σ (46 + 2 * q) 3) (σ (46 + 2 * q) 4)) M))), (4, .int (J (0))), (0, .ref (z + (46 + 2 * q))), (1, .ref (z + 1))]) hx hb d_Spend_isProven_89 hl rfl (by rw [Int.natCast_add M 1]; exact J_add _ _) (by decide) rfl (fun ls hl => ?_)
        refine lv_goto (tgt := 19) hx hb d_Spend_isProven_92 (by decide) ?_
        refine ih (M + 1) (by omega) ls H locs hW hS ?_
        rw [pth_0 (by rw [hdiv] at hbit; omega)]
        exact lv_sub hl [0, 1, 5, 6] rfl
      · skip
        refine lv_iconst (v := J (1)) hx hb d_Spend_isProven_36 rfl ?_
        refine lv_goto (tgt := 41) hx hb d_Spend_isProven_37 (by decide) ?_
        refine lv_istore (lv' := [(4, .int (J (1))), (3, .int (J ((M : Int)))), (2, .int (J (pth i (σ (46 + 2 * q + 1)) (cOf a (σ (46 + 2 * q) 3) (σ (46 + 2 * q) 4)) M))), (0, .ref (z + (46 + 2 * q))), (1, .ref (z + 1))]) hx hb d_Spend_isProven_41 hl (by decide) rfl (fun ls hl => ?_)
        refine lv_iload hx hb d_Spend_isProven_43 (lv_at hl 0 rfl) ?_
        refine y_if_eq (tgt := 57) hx hb d_Spend_isProven_45 (by decide) ⟨by omega, by omega⟩ (fun hc8 => absurd hc8 (by decide)) (fun hc8 => ?_)
        refine lv_aload_n hx hb d_Spend_isProven_48 rfl (lv_at hl 3 rfl) ?_
        refine y_getr hx hb hA in_Spend hown hK.1 hW (46 + 2 * q) (by omega) (lay_Spend (n := q) (by omega)) rfl 6 (by decide) (hA _ k_fl_Spend_9) rfl d_Spend_isProven_49 ?_
        refine lv_iload_n hx hb d_Spend_isProven_52 rfl (lv_at hl 1 rfl) ?_
        refine y_iald hx hb hK.1 hW (46 + 2 * q + 1) (by omega) (lay_path (n := q) (by omega)) rfl (by decide) M rfl (by omega) d_Spend_isProven_53 ?_
        refine lv_goto (tgt := 58) hx hb d_Spend_isProven_54 (by decide) ?_
        refine lv_istore (lv' := [(5, .int (J (σ (46 + 2 * q + 1) M))), (4, .int (J (1))), (3, .int (J ((M : Int)))), (2, .int (J (pth i (σ (46 + 2 * q + 1)) (cOf a (σ (46 + 2 * q) 3) (σ (46 + 2 * q) 4)) M))), (0, .ref (z + (46 + 2 * q))), (1, .ref (z + 1))]) hx hb d_Spend_isProven_58 hl (by decide) rfl (fun ls hl => ?_)
        refine lv_iload hx hb d_Spend_isProven_60 (lv_at hl 1 rfl) ?_
        refine y_if_eq (tgt := 69) hx hb d_Spend_isProven_62 (by decide) ⟨by omega, by omega⟩ (fun hc9 => absurd hc9 (by decide)) (fun hc9 => ?_)
        refine lv_iload_n hx hb d_Spend_isProven_65 rfl (lv_at hl 3 rfl) ?_
        refine lv_goto (tgt := 75) hx hb d_Spend_isProven_66 (by decide) ?_
        refine lv_istore (lv' := [(6, .int (J (pth i (σ (46 + 2 * q + 1)) (cOf a (σ (46 + 2 * q) 3) (σ (46 + 2 * q) 4)) M))), (5, .int (J (σ (46 + 2 * q + 1) M))), (4, .int (J (1))), (3, .int (J ((M : Int)))), (2, .int (J (pth i (σ (46 + 2 * q + 1)) (cOf a (σ (46 + 2 * q) 3) (σ (46 + 2 * q) 4)) M))), (0, .ref (z + (46 + 2 * q))), (1, .ref (z + 1))]) hx hb d_Spend_isProven_75 hl (by decide) rfl (fun ls hl => ?_)
        refine lv_aload_n hx hb d_Spend_isProven_77 rfl (lv_at hl 6 rfl) ?_
        refine lv_iload hx hb d_Spend_isProven_78 (lv_at hl 1 rfl) ?_
        refine lv_iload hx hb d_Spend_isProven_80 (lv_at hl 0 rfl) ?_
        refine lv_iload_n hx hb d_Spend_isProven_82 rfl (lv_at hl 3 rfl) ?_
        refine lv_iconst (v := J (1)) hx hb d_Spend_isProven_83 rfl ?_
        refine y_iadd hx hb d_Spend_isProven_84 ?_
        refine y_ci (y_runV (As := [.int (J (σ (46 + 2 * q + 1) M)), .int (J (pth i (σ (46 + 2 * q + 1)) (cOf a (σ (46 + 2 * q) 3) (σ (46 + 2 * q) 4)) M)), .int (J ((M : Int) + 1))]) (rest := []) ⟨hx, hb, hml, hown, hts⟩ (c_Bases_hash l G z σ hBs (σ (46 + 2 * q + 1) M) (pth i (σ (46 + 2 * q + 1)) (cOf a (σ (46 + 2 * q) 3) (σ (46 + 2 * q) 4)) M) ((M : Int) + 1) ⟨by omega, by omega⟩ ⟨by omega, by omega⟩ ⟨by omega, by omega⟩) 3 k_co_Bases_hash k_ml_Spend_82 k_im_Bases_hash k_se_Bases_hash k_in_Bases rfl rfl (by decide +kernel) ⟨Nat.le_of_ble_eq_true rfl, Nat.le_of_ble_eq_true rfl⟩ (yPv (yK_bl G) (yK_mv G) hK hK.1 hW (by omega) lay_1 rfl (by omega) (by omega)) rfl hl.1 rfl (Nat.le_of_ble_eq_true rfl) d_Spend_isProven_85 ⟨Nat.zero_le _, Nat.zero_le _⟩) hS hW (fun H locs hW hS => ?_)
        refine lv_istore_n (lv' := [(2, .int (J (eX (2409 * (σ (46 + 2 * q + 1) M) + 1499 * (pth i (σ (46 + 2 * q + 1)) (cOf a (σ (46 + 2 * q) 3) (σ (46 + 2 * q) 4)) M) + 1 * ((M : Int) + 1))))), (6, .int (J (pth i (σ (46 + 2 * q + 1)) (cOf a (σ (46 + 2 * q) 3) (σ (46 + 2 * q) 4)) M))), (5, .int (J (σ (46 + 2 * q + 1) M))), (4, .int (J (1))), (3, .int (J ((M : Int)))), (0, .ref (z + (46 + 2 * q))), (1, .ref (z + 1))]) hx hb d_Spend_isProven_88 rfl hl (by decide) rfl (fun ls hl => ?_)
        refine lv_iinc (k := 4) (v := J (((M + 1 : Nat) : Int))) (lv' := [(3, .int (J (((M + 1 : Nat) : Int)))), (2, .int (J (eX (2409 * (σ (46 + 2 * q + 1) M) + 1499 * (pth i (σ (46 + 2 * q + 1)) (cOf a (σ (46 + 2 * q) 3) (σ (46 + 2 * q) 4)) M) + 1 * ((M : Int) + 1))))), (6, .int (J (pth i (σ (46 + 2 * q + 1)) (cOf a (σ (46 + 2 * q) 3) (σ (46 + 2 * q) 4)) M))), (5, .int (J (σ (46 + 2 * q + 1) M))), (4, .int (J (1))), (0, .ref (z + (46 + 2 * q))), (1, .ref (z + 1))]) hx hb d_Spend_isProven_89 hl rfl (by rw [Int.natCast_add M 1]; exact J_add _ _) (by decide) rfl (fun ls hl => ?_)
        refine lv_goto (tgt := 19) hx hb d_Spend_isProven_92 (by decide) ?_
        refine ih (M + 1) (by omega) ls H locs hW hS ?_
        rw [pth_1 (by rw [hdiv] at hbit; omega)]
        exact lv_sub hl [0, 1, 5, 6] rfl
  exact loop 4 0 rfl ls _ _ hW hS hl
