/-! What the pool's own methods change. -/
/-- what a key of secret s knows of leaf i, whose output left e, f, g and whose number is c -/
def kSee (τ : yM) (K : Nat) (s e f g c : Int) (i : Nat) : Prop := τ (K + 1) i = (if cOf s (vOf s e f) (tOf s e g) = c then 1 else 0) ∧ τ (K + 2) i = vOf s e f ∧ τ (K + 3) i = tOf s e g ∧ τ (K + 4) i = nOf s (i : Int)
theorem kSee_to {τ ρ : yM} {K : Nat} {s e f g c : Int} {i : Nat} (h : kSee τ K s e f g c i) (hr : ∀ d, ρ d i = τ d i) : kSee ρ K s e f g c i := by
  unfold kSee
  rw [hr, hr, hr, hr]
  exact h
/-- spend q of the draft was filled from key k and leaf i, with w -/
def spF (σ τ : yM) (q k i : Nat) (w : Int) : Prop := (∀ d, d ≠ 43 → d ≠ 46 + 2 * q → d ≠ 46 + 2 * q + 1 → τ d = σ d) ∧ (∀ j, j ≠ 2 → τ 43 j = σ 43 j) ∧ τ 43 2 = (q : Int) + 1 ∧ τ (46 + 2 * q) 0 = σ (53 + 5 * k) 0 ∧ τ (46 + 2 * q) 1 = σ (53 + 5 * k) 1 ∧ τ (46 + 2 * q) 2 = (i : Int) ∧ τ (46 + 2 * q) 3 = σ (53 + 5 * k + 2) i ∧ τ (46 + 2 * q) 4 = σ (53 + 5 * k + 3) i ∧ τ (46 + 2 * q) 5 = w ∧ τ (46 + 2 * q) 7 = σ 13 30 ∧ τ (46 + 2 * q) 8 = σ (53 + 5 * k + 4) i ∧ τ (46 + 2 * q) 9 = eE (1281 * σ (53 + 5 * k + 2) i + 1369 * w) ∧ ∀ L, L < 4 → τ (46 + 2 * q + 1) L = σ 13 (tpl L (i / 2 ^ L ^^^ 1))
/-- output o of the draft was filled for the address a -/
def ouF (σ τ : yM) (o : Nat) (a v t e w : Int) : Prop := (∀ d, d ≠ 43 → d ≠ 50 + o → τ d = σ d) ∧ (∀ j, j ≠ 3 → τ 43 j = σ 43 j) ∧ τ 43 3 = (o : Int) + 1 ∧ τ (50 + o) 0 = eE a ∧ τ (50 + o) 1 = v ∧ τ (50 + o) 2 = t ∧ τ (50 + o) 3 = cOf a v t ∧ τ (50 + o) 4 = eE e ∧ τ (50 + o) 5 = (v + eX (e * a)) % 1000 ∧ τ (50 + o) 6 = (t + eY (e * a)) % 2473 ∧ τ (50 + o) 7 = w ∧ τ (50 + o) 8 = eE (1281 * v + 1369 * w)
/-- kept out of the counting's sight -/
def hid (p : Prop) : Prop := p
theorem hid_out {p : Prop} (h : hid p) : p := h

theorem d_P_key_0 : decode b_P_key 0 = .ok (.aload_n 0, 1) := by decide +kernel
theorem d_P_key_1 : decode b_P_key 1 = .ok (.getfield 52, 3) := by decide +kernel
theorem d_P_key_4 : decode b_P_key 4 = .ok (.iconst 4, 1) := by decide +kernel
theorem d_P_key_5 : decode b_P_key 5 = .ok (.if_icmp .eq 14, 3) := by decide +kernel
theorem d_P_key_8 : decode b_P_key 8 = .ok (.iload_n 1, 1) := by decide +kernel
theorem d_P_key_9 : decode b_P_key 9 = .ok (.ifCond .eq 10, 3) := by decide +kernel
theorem d_P_key_12 : decode b_P_key 12 = .ok (.iload_n 1, 1) := by decide +kernel
theorem d_P_key_13 : decode b_P_key 13 = .ok (.invokestatic 56, 3) := by decide +kernel
theorem d_P_key_16 : decode b_P_key 16 = .ok (.ifCond .ne 5, 3) := by decide +kernel
theorem d_P_key_19 : decode b_P_key 19 = .ok (.iconst (-1), 1) := by decide +kernel
theorem d_P_key_20 : decode b_P_key 20 = .ok (.ireturn, 1) := by decide +kernel
theorem d_P_key_21 : decode b_P_key 21 = .ok (.aload_n 0, 1) := by decide +kernel
theorem d_P_key_22 : decode b_P_key 22 = .ok (.getfield 47, 3) := by decide +kernel
theorem d_P_key_25 : decode b_P_key 25 = .ok (.aload_n 0, 1) := by decide +kernel
theorem d_P_key_26 : decode b_P_key 26 = .ok (.getfield 52, 3) := by decide +kernel
theorem d_P_key_29 : decode b_P_key 29 = .ok (.aaload, 1) := by decide +kernel
theorem d_P_key_30 : decode b_P_key 30 = .ok (.astore_n 2, 1) := by decide +kernel
theorem d_P_key_31 : decode b_P_key 31 = .ok (.aload_n 2, 1) := by decide +kernel
theorem d_P_key_32 : decode b_P_key 32 = .ok (.aload_n 0, 1) := by decide +kernel
theorem d_P_key_33 : decode b_P_key 33 = .ok (.getfield 10, 3) := by decide +kernel
theorem d_P_key_36 : decode b_P_key 36 = .ok (.iload_n 1, 1) := by decide +kernel
theorem d_P_key_37 : decode b_P_key 37 = .ok (.invokevirtual 60, 3) := by decide +kernel
theorem d_P_key_40 : decode b_P_key 40 = .ok (.iconst 0, 1) := by decide +kernel
theorem d_P_key_41 : decode b_P_key 41 = .ok (.istore_n 3, 1) := by decide +kernel
theorem d_P_key_42 : decode b_P_key 42 = .ok (.iload_n 3, 1) := by decide +kernel
theorem d_P_key_43 : decode b_P_key 43 = .ok (.aload_n 0, 1) := by decide +kernel
theorem d_P_key_44 : decode b_P_key 44 = .ok (.getfield 21, 3) := by decide +kernel
theorem d_P_key_47 : decode b_P_key 47 = .ok (.getfield 64, 3) := by decide +kernel
theorem d_P_key_50 : decode b_P_key 50 = .ok (.if_icmp .ge 22, 3) := by decide +kernel
theorem d_P_key_53 : decode b_P_key 53 = .ok (.aload_n 2, 1) := by decide +kernel
theorem d_P_key_54 : decode b_P_key 54 = .ok (.aload_n 0, 1) := by decide +kernel
theorem d_P_key_55 : decode b_P_key 55 = .ok (.getfield 10, 3) := by decide +kernel
theorem d_P_key_58 : decode b_P_key 58 = .ok (.aload_n 0, 1) := by decide +kernel
theorem d_P_key_59 : decode b_P_key 59 = .ok (.getfield 21, 3) := by decide +kernel
theorem d_P_key_62 : decode b_P_key 62 = .ok (.iload_n 3, 1) := by decide +kernel
theorem d_P_key_63 : decode b_P_key 63 = .ok (.invokevirtual 67, 3) := by decide +kernel
theorem d_P_key_66 : decode b_P_key 66 = .ok (.iinc 3 1, 3) := by decide +kernel
theorem d_P_key_69 : decode b_P_key 69 = .ok (.goto (-27), 3) := by decide +kernel
theorem d_P_key_72 : decode b_P_key 72 = .ok (.aload_n 0, 1) := by decide +kernel
theorem d_P_key_73 : decode b_P_key 73 = .ok (.dup, 1) := by decide +kernel
theorem d_P_key_74 : decode b_P_key 74 = .ok (.getfield 52, 3) := by decide +kernel
theorem d_P_key_77 : decode b_P_key 77 = .ok (.iconst 1, 1) := by decide +kernel
theorem d_P_key_78 : decode b_P_key 78 = .ok (.iadd, 1) := by decide +kernel
theorem d_P_key_79 : decode b_P_key 79 = .ok (.putfield 52, 3) := by decide +kernel
theorem d_P_key_82 : decode b_P_key 82 = .ok (.aload_n 0, 1) := by decide +kernel
theorem d_P_key_83 : decode b_P_key 83 = .ok (.getfield 52, 3) := by decide +kernel
theorem d_P_key_86 : decode b_P_key 86 = .ok (.iconst 1, 1) := by decide +kernel
theorem d_P_key_87 : decode b_P_key 87 = .ok (.isub, 1) := by decide +kernel
theorem d_P_key_88 : decode b_P_key 88 = .ok (.ireturn, 1) := by decide +kernel
theorem d_P_spend_0 : decode b_P_spend 0 = .ok (.aload_n 0, 1) := by decide +kernel
theorem d_P_spend_1 : decode b_P_spend 1 = .ok (.iload_n 1, 1) := by decide +kernel
theorem d_P_spend_2 : decode b_P_spend 2 = .ok (.iload_n 2, 1) := by decide +kernel
theorem d_P_spend_3 : decode b_P_spend 3 = .ok (.invokevirtual 74, 3) := by decide +kernel
theorem d_P_spend_6 : decode b_P_spend 6 = .ok (.ifCond .eq 21, 3) := by decide +kernel
theorem d_P_spend_9 : decode b_P_spend 9 = .ok (.aload_n 0, 1) := by decide +kernel
theorem d_P_spend_10 : decode b_P_spend 10 = .ok (.getfield 41, 3) := by decide +kernel
theorem d_P_spend_13 : decode b_P_spend 13 = .ok (.getfield 78, 3) := by decide +kernel
theorem d_P_spend_16 : decode b_P_spend 16 = .ok (.iconst 2, 1) := by decide +kernel
theorem d_P_spend_17 : decode b_P_spend 17 = .ok (.if_icmp .eq 10, 3) := by decide +kernel
theorem d_P_spend_20 : decode b_P_spend 20 = .ok (.iload_n 3, 1) := by decide +kernel
theorem d_P_spend_21 : decode b_P_spend 21 = .ok (.invokestatic 56, 3) := by decide +kernel
theorem d_P_spend_24 : decode b_P_spend 24 = .ok (.ifCond .ne 5, 3) := by decide +kernel
theorem d_P_spend_27 : decode b_P_spend 27 = .ok (.iconst 0, 1) := by decide +kernel
theorem d_P_spend_28 : decode b_P_spend 28 = .ok (.ireturn, 1) := by decide +kernel
theorem d_P_spend_29 : decode b_P_spend 29 = .ok (.aload_n 0, 1) := by decide +kernel
theorem d_P_spend_30 : decode b_P_spend 30 = .ok (.getfield 41, 3) := by decide +kernel
theorem d_P_spend_33 : decode b_P_spend 33 = .ok (.getfield 81, 3) := by decide +kernel
theorem d_P_spend_36 : decode b_P_spend 36 = .ok (.aload_n 0, 1) := by decide +kernel
theorem d_P_spend_37 : decode b_P_spend 37 = .ok (.getfield 41, 3) := by decide +kernel
theorem d_P_spend_40 : decode b_P_spend 40 = .ok (.getfield 78, 3) := by decide +kernel
theorem d_P_spend_43 : decode b_P_spend 43 = .ok (.aaload, 1) := by decide +kernel
theorem d_P_spend_44 : decode b_P_spend 44 = .ok (.aload_n 0, 1) := by decide +kernel
theorem d_P_spend_45 : decode b_P_spend 45 = .ok (.getfield 10, 3) := by decide +kernel
theorem d_P_spend_48 : decode b_P_spend 48 = .ok (.aload_n 0, 1) := by decide +kernel
theorem d_P_spend_49 : decode b_P_spend 49 = .ok (.getfield 21, 3) := by decide +kernel
theorem d_P_spend_52 : decode b_P_spend 52 = .ok (.aload_n 0, 1) := by decide +kernel
theorem d_P_spend_53 : decode b_P_spend 53 = .ok (.getfield 47, 3) := by decide +kernel
theorem d_P_spend_56 : decode b_P_spend 56 = .ok (.iload_n 1, 1) := by decide +kernel
theorem d_P_spend_57 : decode b_P_spend 57 = .ok (.aaload, 1) := by decide +kernel
theorem d_P_spend_58 : decode b_P_spend 58 = .ok (.iload_n 2, 1) := by decide +kernel
theorem d_P_spend_59 : decode b_P_spend 59 = .ok (.iload_n 3, 1) := by decide +kernel
theorem d_P_spend_60 : decode b_P_spend 60 = .ok (.invokevirtual 85, 3) := by decide +kernel
theorem d_P_spend_63 : decode b_P_spend 63 = .ok (.aload_n 0, 1) := by decide +kernel
theorem d_P_spend_64 : decode b_P_spend 64 = .ok (.getfield 41, 3) := by decide +kernel
theorem d_P_spend_67 : decode b_P_spend 67 = .ok (.dup, 1) := by decide +kernel
theorem d_P_spend_68 : decode b_P_spend 68 = .ok (.getfield 78, 3) := by decide +kernel
theorem d_P_spend_71 : decode b_P_spend 71 = .ok (.iconst 1, 1) := by decide +kernel
theorem d_P_spend_72 : decode b_P_spend 72 = .ok (.iadd, 1) := by decide +kernel
theorem d_P_spend_73 : decode b_P_spend 73 = .ok (.putfield 78, 3) := by decide +kernel
theorem d_P_spend_76 : decode b_P_spend 76 = .ok (.iconst 1, 1) := by decide +kernel
theorem d_P_spend_77 : decode b_P_spend 77 = .ok (.ireturn, 1) := by decide +kernel
theorem d_P_output_0 : decode b_P_output 0 = .ok (.aload_n 0, 1) := by decide +kernel
theorem d_P_output_1 : decode b_P_output 1 = .ok (.iload_n 1, 1) := by decide +kernel
theorem d_P_output_2 : decode b_P_output 2 = .ok (.invokevirtual 91, 3) := by decide +kernel
theorem d_P_output_5 : decode b_P_output 5 = .ok (.ifCond .eq 33, 3) := by decide +kernel
theorem d_P_output_8 : decode b_P_output 8 = .ok (.iload_n 2, 1) := by decide +kernel
theorem d_P_output_9 : decode b_P_output 9 = .ok (.invokestatic 94, 3) := by decide +kernel
theorem d_P_output_12 : decode b_P_output 12 = .ok (.ifCond .eq 26, 3) := by decide +kernel
theorem d_P_output_15 : decode b_P_output 15 = .ok (.iload_n 3, 1) := by decide +kernel
theorem d_P_output_16 : decode b_P_output 16 = .ok (.invokestatic 56, 3) := by decide +kernel
theorem d_P_output_19 : decode b_P_output 19 = .ok (.ifCond .eq 19, 3) := by decide +kernel
theorem d_P_output_22 : decode b_P_output 22 = .ok (.iload 4, 2) := by decide +kernel
theorem d_P_output_24 : decode b_P_output 24 = .ok (.invokestatic 56, 3) := by decide +kernel
theorem d_P_output_27 : decode b_P_output 27 = .ok (.ifCond .eq 11, 3) := by decide +kernel
theorem d_P_output_30 : decode b_P_output 30 = .ok (.iload 5, 2) := by decide +kernel
theorem d_P_output_32 : decode b_P_output 32 = .ok (.invokestatic 56, 3) := by decide +kernel
theorem d_P_output_35 : decode b_P_output 35 = .ok (.ifCond .ne 5, 3) := by decide +kernel
theorem d_P_output_38 : decode b_P_output 38 = .ok (.iconst 0, 1) := by decide +kernel
theorem d_P_output_39 : decode b_P_output 39 = .ok (.ireturn, 1) := by decide +kernel
theorem d_P_output_40 : decode b_P_output 40 = .ok (.aload_n 0, 1) := by decide +kernel
theorem d_P_output_41 : decode b_P_output 41 = .ok (.getfield 41, 3) := by decide +kernel
theorem d_P_output_44 : decode b_P_output 44 = .ok (.getfield 97, 3) := by decide +kernel
theorem d_P_output_47 : decode b_P_output 47 = .ok (.iconst 2, 1) := by decide +kernel
theorem d_P_output_48 : decode b_P_output 48 = .ok (.if_icmp .ne 5, 3) := by decide +kernel
theorem d_P_output_51 : decode b_P_output 51 = .ok (.iconst 0, 1) := by decide +kernel
theorem d_P_output_52 : decode b_P_output 52 = .ok (.ireturn, 1) := by decide +kernel
theorem d_P_output_53 : decode b_P_output 53 = .ok (.aload_n 0, 1) := by decide +kernel
theorem d_P_output_54 : decode b_P_output 54 = .ok (.getfield 41, 3) := by decide +kernel
theorem d_P_output_57 : decode b_P_output 57 = .ok (.getfield 100, 3) := by decide +kernel
theorem d_P_output_60 : decode b_P_output 60 = .ok (.aload_n 0, 1) := by decide +kernel
theorem d_P_output_61 : decode b_P_output 61 = .ok (.getfield 41, 3) := by decide +kernel
theorem d_P_output_64 : decode b_P_output 64 = .ok (.getfield 97, 3) := by decide +kernel
theorem d_P_output_67 : decode b_P_output 67 = .ok (.aaload, 1) := by decide +kernel
theorem d_P_output_68 : decode b_P_output 68 = .ok (.astore 6, 2) := by decide +kernel
theorem d_P_output_70 : decode b_P_output 70 = .ok (.aload 6, 2) := by decide +kernel
theorem d_P_output_72 : decode b_P_output 72 = .ok (.aload_n 0, 1) := by decide +kernel
theorem d_P_output_73 : decode b_P_output 73 = .ok (.getfield 10, 3) := by decide +kernel
theorem d_P_output_76 : decode b_P_output 76 = .ok (.aload_n 0, 1) := by decide +kernel
theorem d_P_output_77 : decode b_P_output 77 = .ok (.getfield 47, 3) := by decide +kernel
theorem d_P_output_80 : decode b_P_output 80 = .ok (.iload_n 1, 1) := by decide +kernel
theorem d_P_output_81 : decode b_P_output 81 = .ok (.aaload, 1) := by decide +kernel
theorem d_P_output_82 : decode b_P_output 82 = .ok (.getfield 104, 3) := by decide +kernel
theorem d_P_output_85 : decode b_P_output 85 = .ok (.iload_n 2, 1) := by decide +kernel
theorem d_P_output_86 : decode b_P_output 86 = .ok (.iload_n 3, 1) := by decide +kernel
theorem d_P_output_87 : decode b_P_output 87 = .ok (.invokevirtual 107, 3) := by decide +kernel
theorem d_P_output_90 : decode b_P_output 90 = .ok (.aload 6, 2) := by decide +kernel
theorem d_P_output_92 : decode b_P_output 92 = .ok (.aload_n 0, 1) := by decide +kernel
theorem d_P_output_93 : decode b_P_output 93 = .ok (.getfield 10, 3) := by decide +kernel
theorem d_P_output_96 : decode b_P_output 96 = .ok (.iload 4, 2) := by decide +kernel
theorem d_P_output_98 : decode b_P_output 98 = .ok (.iload 5, 2) := by decide +kernel
theorem d_P_output_100 : decode b_P_output 100 = .ok (.invokevirtual 112, 3) := by decide +kernel
theorem d_P_output_103 : decode b_P_output 103 = .ok (.aload_n 0, 1) := by decide +kernel
theorem d_P_output_104 : decode b_P_output 104 = .ok (.getfield 41, 3) := by decide +kernel
theorem d_P_output_107 : decode b_P_output 107 = .ok (.dup, 1) := by decide +kernel
theorem d_P_output_108 : decode b_P_output 108 = .ok (.getfield 97, 3) := by decide +kernel
theorem d_P_output_111 : decode b_P_output 111 = .ok (.iconst 1, 1) := by decide +kernel
theorem d_P_output_112 : decode b_P_output 112 = .ok (.iadd, 1) := by decide +kernel
theorem d_P_output_113 : decode b_P_output 113 = .ok (.putfield 97, 3) := by decide +kernel
theorem d_P_output_116 : decode b_P_output 116 = .ok (.iconst 1, 1) := by decide +kernel
theorem d_P_output_117 : decode b_P_output 117 = .ok (.ireturn, 1) := by decide +kernel
theorem d_P_alter_0 : decode b_P_alter 0 = .ok (.iload_n 1, 1) := by decide +kernel
theorem d_P_alter_1 : decode b_P_alter 1 = .ok (.ifCond .lt 45, 3) := by decide +kernel
theorem d_P_alter_4 : decode b_P_alter 4 = .ok (.iload_n 1, 1) := by decide +kernel
theorem d_P_alter_5 : decode b_P_alter 5 = .ok (.iconst 2, 1) := by decide +kernel
theorem d_P_alter_6 : decode b_P_alter 6 = .ok (.if_icmp .gt 40, 3) := by decide +kernel
theorem d_P_alter_9 : decode b_P_alter 9 = .ok (.aload_n 0, 1) := by decide +kernel
theorem d_P_alter_10 : decode b_P_alter 10 = .ok (.getfield 41, 3) := by decide +kernel
theorem d_P_alter_13 : decode b_P_alter 13 = .ok (.getfield 78, 3) := by decide +kernel
theorem d_P_alter_16 : decode b_P_alter 16 = .ok (.ifCond .le 28, 3) := by decide +kernel
theorem d_P_alter_19 : decode b_P_alter 19 = .ok (.aload_n 0, 1) := by decide +kernel
theorem d_P_alter_20 : decode b_P_alter 20 = .ok (.getfield 41, 3) := by decide +kernel
theorem d_P_alter_23 : decode b_P_alter 23 = .ok (.getfield 81, 3) := by decide +kernel
theorem d_P_alter_26 : decode b_P_alter 26 = .ok (.iconst 0, 1) := by decide +kernel
theorem d_P_alter_27 : decode b_P_alter 27 = .ok (.aaload, 1) := by decide +kernel
theorem d_P_alter_28 : decode b_P_alter 28 = .ok (.aload_n 0, 1) := by decide +kernel
theorem d_P_alter_29 : decode b_P_alter 29 = .ok (.getfield 10, 3) := by decide +kernel
theorem d_P_alter_32 : decode b_P_alter 32 = .ok (.iload_n 1, 1) := by decide +kernel
theorem d_P_alter_33 : decode b_P_alter 33 = .ok (.iload_n 2, 1) := by decide +kernel
theorem d_P_alter_34 : decode b_P_alter 34 = .ok (.invokevirtual 119, 3) := by decide +kernel
theorem d_P_alter_37 : decode b_P_alter 37 = .ok (.ifCond .eq 7, 3) := by decide +kernel
theorem d_P_alter_40 : decode b_P_alter 40 = .ok (.iconst 1, 1) := by decide +kernel
theorem d_P_alter_41 : decode b_P_alter 41 = .ok (.goto 4, 3) := by decide +kernel
theorem d_P_alter_44 : decode b_P_alter 44 = .ok (.iconst 0, 1) := by decide +kernel
theorem d_P_alter_45 : decode b_P_alter 45 = .ok (.ireturn, 1) := by decide +kernel
theorem d_P_alter_46 : decode b_P_alter 46 = .ok (.iload_n 1, 1) := by decide +kernel
theorem d_P_alter_47 : decode b_P_alter 47 = .ok (.iconst 3, 1) := by decide +kernel
theorem d_P_alter_48 : decode b_P_alter 48 = .ok (.if_icmp .eq 8, 3) := by decide +kernel
theorem d_P_alter_51 : decode b_P_alter 51 = .ok (.iload_n 1, 1) := by decide +kernel
theorem d_P_alter_52 : decode b_P_alter 52 = .ok (.iconst 4, 1) := by decide +kernel
theorem d_P_alter_53 : decode b_P_alter 53 = .ok (.if_icmp .ne 36, 3) := by decide +kernel
theorem d_P_alter_56 : decode b_P_alter 56 = .ok (.aload_n 0, 1) := by decide +kernel
theorem d_P_alter_57 : decode b_P_alter 57 = .ok (.getfield 41, 3) := by decide +kernel
theorem d_P_alter_60 : decode b_P_alter 60 = .ok (.getfield 97, 3) := by decide +kernel
theorem d_P_alter_63 : decode b_P_alter 63 = .ok (.ifCond .le 24, 3) := by decide +kernel
theorem d_P_alter_66 : decode b_P_alter 66 = .ok (.aload_n 0, 1) := by decide +kernel
theorem d_P_alter_67 : decode b_P_alter 67 = .ok (.getfield 41, 3) := by decide +kernel
theorem d_P_alter_70 : decode b_P_alter 70 = .ok (.getfield 100, 3) := by decide +kernel
theorem d_P_alter_73 : decode b_P_alter 73 = .ok (.iconst 0, 1) := by decide +kernel
theorem d_P_alter_74 : decode b_P_alter 74 = .ok (.aaload, 1) := by decide +kernel
theorem d_P_alter_75 : decode b_P_alter 75 = .ok (.iload_n 1, 1) := by decide +kernel
theorem d_P_alter_76 : decode b_P_alter 76 = .ok (.iload_n 2, 1) := by decide +kernel
theorem d_P_alter_77 : decode b_P_alter 77 = .ok (.invokevirtual 123, 3) := by decide +kernel
theorem d_P_alter_80 : decode b_P_alter 80 = .ok (.ifCond .eq 7, 3) := by decide +kernel
theorem d_P_alter_83 : decode b_P_alter 83 = .ok (.iconst 1, 1) := by decide +kernel
theorem d_P_alter_84 : decode b_P_alter 84 = .ok (.goto 4, 3) := by decide +kernel
theorem d_P_alter_87 : decode b_P_alter 87 = .ok (.iconst 0, 1) := by decide +kernel
theorem d_P_alter_88 : decode b_P_alter 88 = .ok (.ireturn, 1) := by decide +kernel
theorem d_P_alter_89 : decode b_P_alter 89 = .ok (.iload_n 1, 1) := by decide +kernel
theorem d_P_alter_90 : decode b_P_alter 90 = .ok (.iconst 5, 1) := by decide +kernel
theorem d_P_alter_91 : decode b_P_alter 91 = .ok (.if_icmp .ne 10, 3) := by decide +kernel
theorem d_P_alter_94 : decode b_P_alter 94 = .ok (.iload_n 2, 1) := by decide +kernel
theorem d_P_alter_95 : decode b_P_alter 95 = .ok (.invokestatic 56, 3) := by decide +kernel
theorem d_P_alter_98 : decode b_P_alter 98 = .ok (.ifCond .ne 5, 3) := by decide +kernel
theorem d_P_alter_101 : decode b_P_alter 101 = .ok (.iconst 0, 1) := by decide +kernel
theorem d_P_alter_102 : decode b_P_alter 102 = .ok (.ireturn, 1) := by decide +kernel
theorem d_P_alter_103 : decode b_P_alter 103 = .ok (.aload_n 0, 1) := by decide +kernel
theorem d_P_alter_104 : decode b_P_alter 104 = .ok (.getfield 41, 3) := by decide +kernel
theorem d_P_alter_107 : decode b_P_alter 107 = .ok (.iload_n 2, 1) := by decide +kernel
theorem d_P_alter_108 : decode b_P_alter 108 = .ok (.putfield 125, 3) := by decide +kernel
theorem d_P_alter_111 : decode b_P_alter 111 = .ok (.iconst 1, 1) := by decide +kernel
theorem d_P_alter_112 : decode b_P_alter 112 = .ok (.ireturn, 1) := by decide +kernel

set_option maxHeartbeats 4000000 in
set_option maxRecDepth 100000 in
theorem c_P_key (l : Launch) (G : yG) (z : Nat) (σ : yM) (nk : Nat) (hnk : nk ≤ 4) (hk0 : σ 0 5 = (nk : Int)) (fl : Nat) (hflr : fl ≤ 16) (hfl : σ 12 5 = (fl : Int)) (op : Nat → Int) (hop : ∀ i, i < fl → σ 16 i = eE (op i)) (hvr : ∀ i, i < fl → 0 ≤ σ 14 i ∧ σ 14 i < 1000) (htr : ∀ i, i < fl → 0 ≤ σ 15 i ∧ σ 15 i < 2473) (hlr : ∀ i, i < fl → 0 ≤ σ 13 i ∧ σ 13 i < 10009) (hBs : yBs σ) (s9 : Int) (hs9 : jr s9) : Met l y_P_key (Cond.code y_P_key b_P_key 4 (some .int) :: yT) ({ frames := 5, cells := 0, slots := 0, locals := 128 } : Room) (yP ycl G yLP 0 73 z σ (yK G) [.ref (z + 0), .int (J (s9))]) (yQg ycl G yLP 0 73 z (fun v τ => ((nk ≠ 4 ∧ 1 ≤ s9 ∧ s9 ≤ 2472) → v = (nk : Int) ∧ (∀ d, d ≠ 0 → d ≠ (53 + 5 * nk) → d ≠ (53 + 5 * nk + 1) → d ≠ (53 + 5 * nk + 2) → d ≠ (53 + 5 * nk + 3) → d ≠ (53 + 5 * nk + 4) → τ d = σ d) ∧ τ 0 5 = (nk : Int) + 1 ∧ τ (53 + 5 * nk) 0 = s9 ∧ τ (53 + 5 * nk) 1 = eE s9 ∧ ∀ i, i < fl → kSee τ (53 + 5 * nk) s9 (op i) (σ 14 i) (σ 15 i) (σ 13 i) i) ∧ (¬ (nk ≠ 4 ∧ 1 ≤ s9 ∧ s9 ≤ 2472) → v = -1 ∧ τ = σ))) 0 0 (yA z 0 73) := by
  refine y_met (by decide +kernel) (Nat.le_of_ble_eq_true rfl) ?_
  intro p e s m below meth c ls hx hb hr hml hlocks hown hname hts hv hl
  have hA : ∀ w ∈ yT, w.before _ s = true := fun w h => hts w (List.mem_cons_of_mem _ h)
  have hl : lv_has ls 4 [(0, .ref (z + 0)), (1, .int (J (s9)))] := hl
  obtain ⟨hW, hK⟩ := hv
  have hS : va_S (yA z 0 73) s.heap s.heap [] := va_S.rf
  have hAr : ∀ d, 0 ≤ d ∧ d < 0 + 73 → yA z 0 73 (z + d) := yA_all
  refine lv_aload_n hx hb d_P_key_0 rfl (lv_at hl 0 rfl) ?_
  refine y_geti hx hb hA in_P hown hK.1 hW 0 (by omega) lay_0 rfl 5 (by decide) (hA _ k_fl_P_52) rfl d_P_key_1 ?_
  rw [hk0]
  refine lv_iconst (v := J (4)) hx hb d_P_key_4 rfl ?_
  refine y_icmp_eq (tgt := 19) hx hb d_P_key_5 (by decide) ⟨by omega, by omega⟩ ⟨by omega, by omega⟩ (fun hc1 => ?_) (fun hc1 => ?_)
  · skip
    refine lv_iconst (v := J (-1)) hx hb d_P_key_19 rfl ?_
    exact y_retg hx hb hr hlocks hS hW ⟨fun h => absurd h (by omega), fun _ => ⟨rfl, rfl⟩⟩ d_P_key_20
  · skip
    refine lv_iload_n hx hb d_P_key_8 rfl (lv_at hl 1 rfl) ?_
    refine y_if_eq (tgt := 19) hx hb d_P_key_9 (by decide) hs9 (fun hc2 => ?_) (fun hc2 => ?_)
    · skip
      refine lv_iconst (v := J (-1)) hx hb d_P_key_19 rfl ?_
      exact y_retg hx hb hr hlocks hS hW ⟨fun h => absurd h (by omega), fun _ => ⟨rfl, rfl⟩⟩ d_P_key_20
    · skip
      refine lv_iload_n hx hb d_P_key_12 rfl (lv_at hl 1 rfl) ?_
      refine y_ci (y_runS (As := [.int (J (s9))]) (rest := []) ⟨hx, hb, hml, hown, hts⟩ (c_P_isScalar l G (s9) hs9) 1 k_co_P_isScalar k_ml_P_56 k_st_P_isScalar k_in_P rfl rfl (by decide +kernel) ⟨Nat.le_of_ble_eq_true rfl, Nat.le_of_ble_eq_true rfl⟩ (yPs0 (yK_bl G) (yK_mv G) hK) rfl hl.1 rfl (Nat.le_of_ble_eq_true rfl) d_P_key_13 ⟨Nat.zero_le _, Nat.zero_le _⟩) hS hW (fun H locs hW hS => ?_)
      by_cases hq13 : 0 ≤ s9 ∧ s9 < 2473
      · skip
        rw [show (if 0 ≤ s9 ∧ s9 < 2473 then (1 : Int) else 0) = 1 from if_pos hq13]
        refine y_if_ne (tgt := 21) hx hb d_P_key_16 (by decide) ⟨by omega, by omega⟩ (fun hc3 => ?_) (fun hc3 => absurd hc3 (by decide))
        refine lv_aload_n hx hb d_P_key_21 rfl (lv_at hl 0 rfl) ?_
        refine y_getr hx hb hA in_P hown hK.1 hW 0 (by omega) lay_0 rfl 4 (by decide) (hA _ k_fl_P_47) rfl d_P_key_22 ?_
        refine lv_aload_n hx hb d_P_key_25 rfl (lv_at hl 0 rfl) ?_
        refine y_geti hx hb hA in_P hown hK.1 hW 0 (by omega) lay_0 rfl 5 (by decide) (hA _ k_fl_P_52) rfl d_P_key_26 ?_
        rw [hk0]
        refine y_aald hx hb hK.1 hW 52 (by omega) lay_52 rfl (by decide) nk rfl (by omega) d_P_key_29 ?_
        refine lv_astore_n (lv' := [(2, .ref (z + (53 + 5 * nk))), (0, .ref (z + 0)), (1, .int (J (s9)))]) hx hb d_P_key_30 rfl hl (by decide) rfl (fun ls hl => ?_)
        refine lv_aload_n hx hb d_P_key_31 rfl (lv_at hl 0 rfl) ?_
        refine lv_aload_n hx hb d_P_key_32 rfl (lv_at hl 1 rfl) ?_
        refine y_getr hx hb hA in_P hown hK.1 hW 0 (by omega) lay_0 rfl 0 (by decide) (hA _ k_fl_P_10) rfl d_P_key_33 ?_
        refine lv_iload_n hx hb d_P_key_36 rfl (lv_at hl 2 rfl) ?_
        have hk4 : nk < 4 := by omega
        obtain ⟨s0, e_s0⟩ : ∃ q : Nat, s9 = (q : Int) := ⟨s9.toNat, by omega⟩
        refine y_ch (y_runV (As := [.ref (z + 1), .int (J (s9))]) (rest := []) ⟨hx, hb, hml, hown, hts⟩ (c_Key_begin l G z σ hBs nk (by omega) (s9) hs9) 2 k_co_Key_begin k_ml_P_60 k_im_Key_begin k_se_Key_begin k_in_Key rfl rfl (by decide +kernel) ⟨Nat.le_of_ble_eq_true rfl, Nat.le_of_ble_eq_true rfl⟩ (yPv (yK_bl G) (yK_mv G) hK hK.1 hW (by omega) (lay_Key (n := nk) (by omega)) rfl (by omega) (by omega)) rfl hl.1 rfl (Nat.le_of_ble_eq_true rfl) d_P_key_37 ⟨Nat.zero_le _, Nat.zero_le _⟩) hS hAr (fun τ37 H locs hp37 hk37 hW hS => ?_)
        refine lv_iconst (v := J (0)) hx hb d_P_key_40 rfl ?_
        refine lv_istore_n (lv' := [(3, .int (J (0))), (2, .ref (z + (53 + 5 * nk))), (0, .ref (z + 0)), (1, .int (J (s9)))]) hx hb d_P_key_41 rfl hl (by decide) rfl (fun ls hl => ?_)
        have loop42 : ∀ (q9 j : Nat), j + q9 = fl → ∀ (τ : yM), (∀ d, d ≠ (53 + 5 * nk + 1) → d ≠ (53 + 5 * nk + 2) → d ≠ (53 + 5 * nk + 3) → d ≠ (53 + 5 * nk + 4) → τ d = τ37 d) → (∀ i, i < j → kSee τ (53 + 5 * nk) s9 (op i) (σ 14 i) (σ 15 i) (σ 13 i) i) → ∀ (ls : Array Slot) (H : Heap) (locs : List Loc), yW ycl G yLP 0 73 z τ H → va_S (yA z 0 73) s.heap H locs → lv_has ls 4 [(3, .int (J (((j : Nat) : Int)))), (2, .ref (z + (53 + 5 * nk))), (0, .ref (z + 0)), (1, .int (J (s9)))] → W p l e ({ frames := 5, cells := 0, slots := 0, locals := 128 } : Room) s m ([.ref (z + 0), .int (J (s9))] : List Value).toArray below meth c H locs 0 0 (MQ below (yQg ycl G yLP 0 73 z (fun v τ => ((nk ≠ 4 ∧ 1 ≤ s9 ∧ s9 ≤ 2472) → v = (nk : Int) ∧ (∀ d, d ≠ 0 → d ≠ (53 + 5 * nk) → d ≠ (53 + 5 * nk + 1) → d ≠ (53 + 5 * nk + 2) → d ≠ (53 + 5 * nk + 3) → d ≠ (53 + 5 * nk + 4) → τ d = σ d) ∧ τ 0 5 = (nk : Int) + 1 ∧ τ (53 + 5 * nk) 0 = s9 ∧ τ (53 + 5 * nk) 1 = eE s9 ∧ ∀ i, i < fl → kSee τ (53 + 5 * nk) s9 (op i) (σ 14 i) (σ 15 i) (σ 13 i) i) ∧ (¬ (nk ≠ 4 ∧ 1 ≤ s9 ∧ s9 ≤ 2472) → v = -1 ∧ τ = σ))) ([.ref (z + 0), .int (J (s9))] : List Value).toArray s 0 0 (yA z 0 73)) (F0 m 42 ls []) := by
          intro q9
          induction q9 with
          | zero =>
            intro j hjk τ hF hI ls H locs hW hS hl
            have hjN : fl = j := by omega
            subst hjN
            refine lv_iload_n hx hb d_P_key_42 rfl (lv_at hl 0 rfl) ?_
            refine lv_aload_n hx hb d_P_key_43 rfl (lv_at hl 2 rfl) ?_
            refine y_getr hx hb hA in_P hown hK.1 hW 0 (by omega) lay_0 rfl 1 (by decide) (hA _ k_fl_P_21) rfl d_P_key_44 ?_
            refine y_geti hx hb hA in_Tree hown hK.1 hW 12 (by omega) lay_12 rfl 5 (by decide) (hA _ k_fl_P_64) rfl d_P_key_47 ?_
            rw [hF 12 (by omega) (by omega) (by omega) (by omega), hp37.1 12 (by omega)]
            rw [hfl]
            refine y_icmp_ge (tgt := 72) hx hb d_P_key_50 (by decide) ⟨by omega, by omega⟩ ⟨by omega, by omega⟩ (fun hc4 => ?_) (fun hc4 => absurd hc4 (by omega))
            refine lv_aload_n hx hb d_P_key_72 rfl (lv_at hl 2 rfl) ?_
            refine lv_dup hx hb d_P_key_73 rfl ?_
            refine y_geti hx hb hA in_P hown hK.1 hW 0 (by omega) lay_0 rfl 5 (by decide) (hA _ k_fl_P_52) rfl d_P_key_74 ?_
            rw [hF 0 (by omega) (by omega) (by omega) (by omega), hp37.1 0 (by omega)]
            rw [hk0]
            refine lv_iconst (v := J (1)) hx hb d_P_key_77 rfl ?_
            refine y_iadd hx hb d_P_key_78 ?_
            refine y_puti hx hb hA in_P hown hK.1 hW 0 (by omega) lay_0 rfl 5 (by decide) t_P tk_P nm_P hS hAr (hA _ k_fl_P_52) rfl (by decide +kernel) rfl d_P_key_79 (fun H locs hW hS => ?_)
            refine lv_aload_n hx hb d_P_key_82 rfl (lv_at hl 2 rfl) ?_
            refine y_geti hx hb hA in_P hown hK.1 hW 0 (by omega) lay_0 rfl 5 (by decide) (hA _ k_fl_P_52) rfl d_P_key_83 ?_
            rw [y2_at]
            refine lv_iconst (v := J (1)) hx hb d_P_key_86 rfl ?_
            refine y_isub hx hb d_P_key_87 ?_
            exact y_retg hx hb hr hlocks hS hW ⟨fun _ => ⟨by omega, fun d h0 hK h1 h2 h3 h4 => by rw [y2_ne h0, hF d h1 h2 h3 h4, hp37.1 d hK], y2_at, by rw [y2_cl (by omega), hF (53 + 5 * nk) (by omega) (by omega) (by omega) (by omega), hp37.2.1], by rw [y2_cl (by omega), hF (53 + 5 * nk) (by omega) (by omega) (by omega) (by omega), hp37.2.2], fun i hi => by have hh := hI i hi; unfold kSee at hh ⊢; rw [y2_cl (by omega), y2_cl (by omega), y2_cl (by omega), y2_cl (by omega)]; exact hh⟩, fun h => absurd ⟨by omega, by omega, by omega⟩ h⟩ d_P_key_88
          | succ q9 ih =>
            intro j hjk τ hF hI ls H locs hW hS hl
            have g13 : τ 13 = σ 13 := by rw [hF 13 (by omega) (by omega) (by omega) (by omega), hp37.1 13 (by omega)]
            have g14 : τ 14 = σ 14 := by rw [hF 14 (by omega) (by omega) (by omega) (by omega), hp37.1 14 (by omega)]
            have g15 : τ 15 = σ 15 := by rw [hF 15 (by omega) (by omega) (by omega) (by omega), hp37.1 15 (by omega)]
            have g16 : τ 16 = σ 16 := by rw [hF 16 (by omega) (by omega) (by omega) (by omega), hp37.1 16 (by omega)]
            have gs : τ (53 + 5 * nk) 0 = (s0 : Int) := by rw [hF (53 + 5 * nk) (by omega) (by omega) (by omega) (by omega), hp37.2.1]; exact e_s0
            have ga : τ (53 + 5 * nk) 1 = eE (s0 : Int) := by rw [hF (53 + 5 * nk) (by omega) (by omega) (by omega) (by omega), hp37.2.2, e_s0]
            refine lv_iload_n hx hb d_P_key_42 rfl (lv_at hl 0 rfl) ?_
            refine lv_aload_n hx hb d_P_key_43 rfl (lv_at hl 2 rfl) ?_
            refine y_getr hx hb hA in_P hown hK.1 hW 0 (by omega) lay_0 rfl 1 (by decide) (hA _ k_fl_P_21) rfl d_P_key_44 ?_
            refine y_geti hx hb hA in_Tree hown hK.1 hW 12 (by omega) lay_12 rfl 5 (by decide) (hA _ k_fl_P_64) rfl d_P_key_47 ?_
            rw [hF 12 (by omega) (by omega) (by omega) (by omega), hp37.1 12 (by omega)]
            rw [hfl]
            refine y_icmp_ge (tgt := 72) hx hb d_P_key_50 (by decide) ⟨by omega, by omega⟩ ⟨by omega, by omega⟩ (fun hc5 => absurd hc5 (by omega)) (fun hc5 => ?_)
            refine lv_aload_n hx hb d_P_key_53 rfl (lv_at hl 1 rfl) ?_
            refine lv_aload_n hx hb d_P_key_54 rfl (lv_at hl 2 rfl) ?_
            refine y_getr hx hb hA in_P hown hK.1 hW 0 (by omega) lay_0 rfl 0 (by decide) (hA _ k_fl_P_10) rfl d_P_key_55 ?_
            refine lv_aload_n hx hb d_P_key_58 rfl (lv_at hl 2 rfl) ?_
            refine y_getr hx hb hA in_P hown hK.1 hW 0 (by omega) lay_0 rfl 1 (by decide) (hA _ k_fl_P_21) rfl d_P_key_59 ?_
            refine lv_iload_n hx hb d_P_key_62 rfl (lv_at hl 0 rfl) ?_
            refine y_ch (y_runV (As := [.ref (z + 1), .ref (z + 12), .int (J (((j : Nat) : Int)))]) (rest := []) ⟨hx, hb, hml, hown, hts⟩ (c_Key_look l G z τ (yBs_to (yBs_to hBs (hp37.1 3 (by omega)) (hp37.1 5 (by omega)) (hp37.1 7 (by omega)) (hp37.1 9 (by omega)) (hp37.1 11 (by omega))) (hF 3 (by omega) (by omega) (by omega) (by omega)) (hF 5 (by omega) (by omega) (by omega) (by omega)) (hF 7 (by omega) (by omega) (by omega) (by omega)) (hF 9 (by omega) (by omega) (by omega) (by omega)) (hF 11 (by omega) (by omega) (by omega) (by omega))) nk hk4 s0 (by omega) gs ga j (by omega) (op j) (by rw [g16]; exact hop j (by omega)) (by rw [g14]; exact hvr j (by omega)) (by rw [g15]; exact htr j (by omega)) (by rw [g13]; exact hlr j (by omega))) 3 k_co_Key_look k_ml_P_67 k_im_Key_look k_se_Key_look k_in_Key rfl rfl (by decide +kernel) ⟨Nat.le_of_ble_eq_true rfl, Nat.le_of_ble_eq_true rfl⟩ (yPv (yK_bl G) (yK_mv G) hK hK.1 hW (by omega) (lay_Key (n := nk) (by omega)) rfl (by omega) (by omega)) rfl hl.1 rfl (Nat.le_of_ble_eq_true rfl) d_P_key_63 ⟨Nat.zero_le _, Nat.zero_le _⟩) hS hAr (fun τ63 H locs hp63 hk63 hW hS => ?_)
            refine lv_iinc (k := 0) (v := J (((j + 1 : Nat) : Int))) (lv' := [(3, .int (J (((j + 1 : Nat) : Int)))), (2, .ref (z + (53 + 5 * nk))), (0, .ref (z + 0)), (1, .int (J (s9)))]) hx hb d_P_key_66 hl rfl (by rw [Int.natCast_add j 1]; exact J_add _ _) (by decide) rfl (fun ls hl => ?_)
            refine lv_goto (tgt := 42) hx hb d_P_key_69 (by decide) ?_
            obtain ⟨u1, u2, u3, u4, u5, u6⟩ := hp63
            refine ih (j + 1) (by omega) _ (fun d h1 h2 h3 h4 => (u1 d h1 h2 h3 h4).trans (hF d h1 h2 h3 h4)) ?_ ls H locs hW hS hl
            intro i hi
            by_cases e : i = j
            · subst e; unfold kSee; rw [u3, u4, u5, u6, g13, g14, g15, e_s0]; exact ⟨rfl, rfl, rfl, rfl⟩
            · exact kSee_to (hI i (by omega)) (fun d => u2 d i e)
        exact loop42 fl 0 (by omega) _ (fun _ _ _ _ _ => rfl) (fun i h => absurd h (Nat.not_lt_zero i)) ls _ _ hW hS hl
      · skip
        rw [show (if 0 ≤ s9 ∧ s9 < 2473 then (1 : Int) else 0) = 0 from if_neg hq13]
        refine y_if_ne (tgt := 21) hx hb d_P_key_16 (by decide) ⟨by omega, by omega⟩ (fun hc6 => absurd hc6 (by decide)) (fun hc6 => ?_)
        refine lv_iconst (v := J (-1)) hx hb d_P_key_19 rfl ?_
        exact y_retg hx hb hr hlocks hS hW ⟨fun h => absurd h (by omega), fun _ => ⟨rfl, rfl⟩⟩ d_P_key_20

set_option maxHeartbeats 4000000 in
set_option maxRecDepth 100000 in
theorem c_P_spend (l : Launch) (G : yG) (z : Nat) (σ : yM) (nk : Nat) (hnk : nk ≤ 4) (hk0 : σ 0 5 = (nk : Int)) (fl : Nat) (hflr : fl ≤ 16) (hfl : σ 12 5 = (fl : Int)) (hfnd : ∀ k, k < nk → ∀ i, i < fl → σ (53 + 5 * k + 1) i = 0 ∨ σ (53 + 5 * k + 1) i = 1) (hBs : yBs σ) (ns : Nat) (hns : ns ≤ 2) (hs : σ 43 2 = (ns : Int)) (hval : ∀ k, k < nk → ∀ i, i < fl → jr (σ (53 + 5 * k + 2) i)) (k i w9 : Int) (hk9 : jr k) (hi9 : jr i) (hw9 : jr w9) : Met l y_P_spend (Cond.code y_P_spend b_P_spend 4 (some .boolean) :: yT) ({ frames := 5, cells := 0, slots := 0, locals := 125 } : Room) (yP ycl G yLP 0 73 z σ (yK G) [.ref (z + 0), .int (J (k)), .int (J (i)), .int (J (w9))]) (yQg ycl G yLP 0 73 z (fun v τ => ((finP σ nk fl k i ∧ ns ≠ 2 ∧ 0 ≤ w9 ∧ w9 < 2473) → v = 1 ∧ spF σ τ ns k.toNat i.toNat w9) ∧ (¬ (finP σ nk fl k i ∧ ns ≠ 2 ∧ 0 ≤ w9 ∧ w9 < 2473) → v = 0 ∧ τ = σ))) 0 0 (yA z 0 73) := by
  refine y_met (by decide +kernel) (Nat.le_of_ble_eq_true rfl) ?_
  intro p e s m below meth c ls hx hb hr hml hlocks hown hname hts hv hl
  have hA : ∀ w ∈ yT, w.before _ s = true := fun w h => hts w (List.mem_cons_of_mem _ h)
  have hl : lv_has ls 4 [(0, .ref (z + 0)), (1, .int (J (k))), (2, .int (J (i))), (3, .int (J (w9)))] := hl
  obtain ⟨hW, hK⟩ := hv
  have hS : va_S (yA z 0 73) s.heap s.heap [] := va_S.rf
  have hAr : ∀ d, 0 ≤ d ∧ d < 0 + 73 → yA z 0 73 (z + d) := yA_all
  refine lv_aload_n hx hb d_P_spend_0 rfl (lv_at hl 0 rfl) ?_
  refine lv_iload_n hx hb d_P_spend_1 rfl (lv_at hl 1 rfl) ?_
  refine lv_iload_n hx hb d_P_spend_2 rfl (lv_at hl 2 rfl) ?_
  refine y_ci (y_runV (As := [.int (J (k)), .int (J (i))]) (rest := []) ⟨hx, hb, hml, hown, hts⟩ (c_P_finds l G z σ nk hnk hk0 fl hflr hfl hfnd (k) (i) hk9 hi9) 2 k_co_P_finds k_ml_P_74 k_im_P_finds k_se_P_finds k_in_P rfl rfl (by decide +kernel) ⟨Nat.le_of_ble_eq_true rfl, Nat.le_of_ble_eq_true rfl⟩ (yPv (yK_bl G) (yK_mv G) hK hK.1 hW (by omega) lay_0 rfl (by omega) (by omega)) rfl hl.1 rfl (Nat.le_of_ble_eq_true rfl) d_P_spend_3 ⟨Nat.zero_le _, Nat.zero_le _⟩) hS hW (fun H locs hW hS => ?_)
  by_cases hf9 : finP σ nk fl k i
  · skip
    rw [b01_t hf9]
    refine y_if_eq (tgt := 27) hx hb d_P_spend_6 (by decide) ⟨by omega, by omega⟩ (fun hc1 => absurd hc1 (by decide)) (fun hc1 => ?_)
    refine lv_aload_n hx hb d_P_spend_9 rfl (lv_at hl 0 rfl) ?_
    refine y_getr hx hb hA in_P hown hK.1 hW 0 (by omega) lay_0 rfl 3 (by decide) (hA _ k_fl_P_41) rfl d_P_spend_10 ?_
    refine y_geti hx hb hA in_Draft hown hK.1 hW 43 (by omega) lay_43 rfl 2 (by decide) (hA _ k_fl_P_78) rfl d_P_spend_13 ?_
    rw [hs]
    refine lv_iconst (v := J (2)) hx hb d_P_spend_16 rfl ?_
    refine y_icmp_eq (tgt := 27) hx hb d_P_spend_17 (by decide) ⟨by omega, by omega⟩ ⟨by omega, by omega⟩ (fun hc2 => ?_) (fun hc2 => ?_)
    · skip
      refine lv_iconst (v := J (0)) hx hb d_P_spend_27 rfl ?_
      exact y_retgz hx hb hr hlocks hS hW (Or.inl rfl) ⟨fun h => absurd h.2 (by omega), fun _ => ⟨rfl, rfl⟩⟩ d_P_spend_28
    · skip
      refine lv_iload_n hx hb d_P_spend_20 rfl (lv_at hl 3 rfl) ?_
      refine y_ci (y_runS (As := [.int (J (w9))]) (rest := []) ⟨hx, hb, hml, hown, hts⟩ (c_P_isScalar l G (w9) hw9) 1 k_co_P_isScalar k_ml_P_56 k_st_P_isScalar k_in_P rfl rfl (by decide +kernel) ⟨Nat.le_of_ble_eq_true rfl, Nat.le_of_ble_eq_true rfl⟩ (yPs0 (yK_bl G) (yK_mv G) hK) rfl hl.1 rfl (Nat.le_of_ble_eq_true rfl) d_P_spend_21 ⟨Nat.zero_le _, Nat.zero_le _⟩) hS hW (fun H locs hW hS => ?_)
      by_cases hq21 : 0 ≤ w9 ∧ w9 < 2473
      · skip
        rw [show (if 0 ≤ w9 ∧ w9 < 2473 then (1 : Int) else 0) = 1 from if_pos hq21]
        refine y_if_ne (tgt := 29) hx hb d_P_spend_24 (by decide) ⟨by omega, by omega⟩ (fun hc3 => ?_) (fun hc3 => absurd hc3 (by decide))
        obtain ⟨g1, g2, g3⟩ := hf9
        obtain ⟨kn, e_kn⟩ : ∃ q : Nat, k = (q : Int) := ⟨(k).toNat, by omega⟩
        obtain ⟨jn, e_jn⟩ : ∃ q : Nat, i = (q : Int) := ⟨(i).toNat, by omega⟩
        have hns2 : ns < 2 := by omega
        refine lv_aload_n hx hb d_P_spend_29 rfl (lv_at hl 0 rfl) ?_
        refine y_getr hx hb hA in_P hown hK.1 hW 0 (by omega) lay_0 rfl 3 (by decide) (hA _ k_fl_P_41) rfl d_P_spend_30 ?_
        refine y_getr hx hb hA in_Draft hown hK.1 hW 43 (by omega) lay_43 rfl 0 (by decide) (hA _ k_fl_P_81) rfl d_P_spend_33 ?_
        refine lv_aload_n hx hb d_P_spend_36 rfl (lv_at hl 0 rfl) ?_
        refine y_getr hx hb hA in_P hown hK.1 hW 0 (by omega) lay_0 rfl 3 (by decide) (hA _ k_fl_P_41) rfl d_P_spend_37 ?_
        refine y_geti hx hb hA in_Draft hown hK.1 hW 43 (by omega) lay_43 rfl 2 (by decide) (hA _ k_fl_P_78) rfl d_P_spend_40 ?_
        rw [hs]
        refine y_aald hx hb hK.1 hW 44 (by omega) lay_44 rfl (by decide) ns rfl (by omega) d_P_spend_43 ?_
        refine lv_aload_n hx hb d_P_spend_44 rfl (lv_at hl 0 rfl) ?_
        refine y_getr hx hb hA in_P hown hK.1 hW 0 (by omega) lay_0 rfl 0 (by decide) (hA _ k_fl_P_10) rfl d_P_spend_45 ?_
        refine lv_aload_n hx hb d_P_spend_48 rfl (lv_at hl 0 rfl) ?_
        refine y_getr hx hb hA in_P hown hK.1 hW 0 (by omega) lay_0 rfl 1 (by decide) (hA _ k_fl_P_21) rfl d_P_spend_49 ?_
        refine lv_aload_n hx hb d_P_spend_52 rfl (lv_at hl 0 rfl) ?_
        refine y_getr hx hb hA in_P hown hK.1 hW 0 (by omega) lay_0 rfl 4 (by decide) (hA _ k_fl_P_47) rfl d_P_spend_53 ?_
        refine lv_iload_n hx hb d_P_spend_56 rfl (lv_at hl 1 rfl) ?_
        refine y_aald hx hb hK.1 hW 52 (by omega) lay_52 rfl (by decide) kn (by omega) (by omega) d_P_spend_57 ?_
        refine lv_iload_n hx hb d_P_spend_58 rfl (lv_at hl 2 rfl) ?_
        refine lv_iload_n hx hb d_P_spend_59 rfl (lv_at hl 3 rfl) ?_
        refine W.eq (g2 := F0 m 60 ls [.int (J (w9)), .int (J ((jn : Int))), .ref (z + (53 + 5 * kn)), .ref (z + 12), .ref (z + 1), .ref (z + (46 + 2 * ns))]) (by rw [e_jn]) ?_
        refine y_ch (y_runV (As := [.ref (z + 1), .ref (z + 12), .ref (z + (53 + 5 * kn)), .int (J ((jn : Int))), .int (J (w9))]) (rest := []) ⟨hx, hb, hml, hown, hts⟩ (c_Spend_fill l G z σ hBs ns hns2 kn (by omega) jn (by omega) w9 hw9 (hval kn (by omega) jn (by omega))) 5 k_co_Spend_fill k_ml_P_85 k_im_Spend_fill k_se_Spend_fill k_in_Spend rfl rfl (by decide +kernel) ⟨Nat.le_of_ble_eq_true rfl, Nat.le_of_ble_eq_true rfl⟩ (yPv (yK_bl G) (yK_mv G) hK hK.1 hW (by omega) (lay_Spend (n := ns) (by omega)) rfl (by omega) (by omega)) rfl hl.1 rfl (Nat.le_of_ble_eq_true rfl) d_P_spend_60 ⟨Nat.zero_le _, Nat.zero_le _⟩) hS hAr (fun τ60 H locs hp60 hk60 hW hS => ?_)
        refine lv_aload_n hx hb d_P_spend_63 rfl (lv_at hl 0 rfl) ?_
        refine y_getr hx hb hA in_P hown hK.1 hW 0 (by omega) lay_0 rfl 3 (by decide) (hA _ k_fl_P_41) rfl d_P_spend_64 ?_
        refine lv_dup hx hb d_P_spend_67 rfl ?_
        refine y_geti hx hb hA in_Draft hown hK.1 hW 43 (by omega) lay_43 rfl 2 (by decide) (hA _ k_fl_P_78) rfl d_P_spend_68 ?_
        rw [hp60.1 43 (by omega) (by omega)]
        rw [hs]
        refine lv_iconst (v := J (1)) hx hb d_P_spend_71 rfl ?_
        refine y_iadd hx hb d_P_spend_72 ?_
        refine y_puti hx hb hA in_Draft hown hK.1 hW 43 (by omega) lay_43 rfl 2 (by decide) t_Draft tk_Draft nm_Draft hS hAr (hA _ k_fl_P_78) rfl (by decide +kernel) rfl d_P_spend_73 (fun H locs hW hS => ?_)
        refine lv_iconst (v := J (1)) hx hb d_P_spend_76 rfl ?_
        exact y_retgz hx hb hr hlocks hS hW (Or.inr rfl) ⟨fun _ => ⟨rfl, by rw [e_kn, e_jn, Int.toNat_natCast, Int.toNat_natCast]; obtain ⟨u1, u2, u3, u4, u5, u6, u7, u8, u9, u10, u11⟩ := hp60; exact ⟨fun d h1 h2 h3 => by rw [y2_ne h1, u1 d h2 h3], fun j hj => by rw [y2_ot hj, u1 43 (by omega) (by omega)], y2_at, by rw [y2_cl (by omega), u2], by rw [y2_cl (by omega), u3], by rw [y2_cl (by omega), u4], by rw [y2_cl (by omega), u5], by rw [y2_cl (by omega), u6], by rw [y2_cl (by omega), u7], by rw [y2_cl (by omega), u8], by rw [y2_cl (by omega), u9], by rw [y2_cl (by omega), u10], fun L hL => by rw [y2_cl (by omega), u11 L hL]⟩⟩, fun h => absurd ⟨⟨g1, g2, g3⟩, by omega, by omega, by omega⟩ h⟩ d_P_spend_77
      · skip
        rw [show (if 0 ≤ w9 ∧ w9 < 2473 then (1 : Int) else 0) = 0 from if_neg hq21]
        refine y_if_ne (tgt := 29) hx hb d_P_spend_24 (by decide) ⟨by omega, by omega⟩ (fun hc4 => absurd hc4 (by decide)) (fun hc4 => ?_)
        refine lv_iconst (v := J (0)) hx hb d_P_spend_27 rfl ?_
        exact y_retgz hx hb hr hlocks hS hW (Or.inl rfl) ⟨fun h => absurd h.2 (by omega), fun _ => ⟨rfl, rfl⟩⟩ d_P_spend_28
  · skip
    rw [b01_f hf9]
    refine y_if_eq (tgt := 27) hx hb d_P_spend_6 (by decide) ⟨by omega, by omega⟩ (fun hc5 => ?_) (fun hc5 => absurd hc5 (by decide))
    refine lv_iconst (v := J (0)) hx hb d_P_spend_27 rfl ?_
    exact y_retgz hx hb hr hlocks hS hW (Or.inl rfl) ⟨fun h => absurd h.1 hf9, fun _ => ⟨rfl, rfl⟩⟩ d_P_spend_28

set_option maxHeartbeats 4000000 in
set_option maxRecDepth 100000 in
theorem c_P_output (l : Launch) (G : yG) (z : Nat) (σ : yM) (nk : Nat) (hnk : nk ≤ 4) (hk0 : σ 0 5 = (nk : Int)) (hBs : yBs σ) (no : Nat) (hno : no ≤ 2) (ho : σ 43 3 = (no : Int)) (sec : Nat → Int) (hadr : ∀ k, k < nk → σ (53 + 5 * k) 1 = eE (sec k)) (k v9 t9 e9 w9 : Int) (hk9 : jr k) (hv9 : jr v9) (ht9 : jr t9) (he9 : jr e9) (hw9 : jr w9) : Met l y_P_output (Cond.code y_P_output b_P_output 7 (some .boolean) :: yT) ({ frames := 5, cells := 0, slots := 0, locals := 126 } : Room) (yP ycl G yLP 0 73 z σ (yK G) [.ref (z + 0), .int (J (k)), .int (J (v9)), .int (J (t9)), .int (J (e9)), .int (J (w9))]) (yQg ycl G yLP 0 73 z (fun v τ => (((0 ≤ k ∧ k < (nk : Int)) ∧ (0 ≤ v9 ∧ v9 < 1000) ∧ (0 ≤ t9 ∧ t9 < 2473) ∧ (0 ≤ e9 ∧ e9 < 2473) ∧ (0 ≤ w9 ∧ w9 < 2473) ∧ no ≠ 2) → v = 1 ∧ ouF σ τ no (sec k.toNat) v9 t9 e9 w9) ∧ (¬ ((0 ≤ k ∧ k < (nk : Int)) ∧ (0 ≤ v9 ∧ v9 < 1000) ∧ (0 ≤ t9 ∧ t9 < 2473) ∧ (0 ≤ e9 ∧ e9 < 2473) ∧ (0 ≤ w9 ∧ w9 < 2473) ∧ no ≠ 2) → v = 0 ∧ τ = σ))) 0 0 (yA z 0 73) := by
  refine y_met (by decide +kernel) (Nat.le_of_ble_eq_true rfl) ?_
  intro p e s m below meth c ls hx hb hr hml hlocks hown hname hts hv hl
  have hA : ∀ w ∈ yT, w.before _ s = true := fun w h => hts w (List.mem_cons_of_mem _ h)
  have hl : lv_has ls 7 [(0, .ref (z + 0)), (1, .int (J (k))), (2, .int (J (v9))), (3, .int (J (t9))), (4, .int (J (e9))), (5, .int (J (w9)))] := hl
  obtain ⟨hW, hK⟩ := hv
  have hS : va_S (yA z 0 73) s.heap s.heap [] := va_S.rf
  have hAr : ∀ d, 0 ≤ d ∧ d < 0 + 73 → yA z 0 73 (z + d) := yA_all
  refine lv_aload_n hx hb d_P_output_0 rfl (lv_at hl 0 rfl) ?_
  refine lv_iload_n hx hb d_P_output_1 rfl (lv_at hl 1 rfl) ?_
  refine y_ci (y_runV (As := [.int (J (k))]) (rest := []) ⟨hx, hb, hml, hown, hts⟩ (c_P_isKey l G z σ nk hnk hk0 (k) ⟨by omega, by omega⟩) 1 k_co_P_isKey k_ml_P_91 k_im_P_isKey k_se_P_isKey k_in_P rfl rfl (by decide +kernel) ⟨Nat.le_of_ble_eq_true rfl, Nat.le_of_ble_eq_true rfl⟩ (yPv (yK_bl G) (yK_mv G) hK hK.1 hW (by omega) lay_0 rfl (by omega) (by omega)) rfl hl.1 rfl (Nat.le_of_ble_eq_true rfl) d_P_output_2 ⟨Nat.zero_le _, Nat.zero_le _⟩) hS hW (fun H locs hW hS => ?_)
  by_cases hq2 : 0 ≤ k ∧ k < (nk : Int)
  · skip
    rw [show (if 0 ≤ k ∧ k < (nk : Int) then (1 : Int) else 0) = 1 from if_pos hq2]
    refine y_if_eq (tgt := 38) hx hb d_P_output_5 (by decide) ⟨by omega, by omega⟩ (fun hc1 => absurd hc1 (by decide)) (fun hc1 => ?_)
    refine lv_iload_n hx hb d_P_output_8 rfl (lv_at hl 2 rfl) ?_
    refine y_ci (y_runS (As := [.int (J (v9))]) (rest := []) ⟨hx, hb, hml, hown, hts⟩ (c_P_isValue l G (v9) hv9) 1 k_co_P_isValue k_ml_P_94 k_st_P_isValue k_in_P rfl rfl (by decide +kernel) ⟨Nat.le_of_ble_eq_true rfl, Nat.le_of_ble_eq_true rfl⟩ (yPs0 (yK_bl G) (yK_mv G) hK) rfl hl.1 rfl (Nat.le_of_ble_eq_true rfl) d_P_output_9 ⟨Nat.zero_le _, Nat.zero_le _⟩) hS hW (fun H locs hW hS => ?_)
    by_cases hq9 : 0 ≤ v9 ∧ v9 < 1000
    · skip
      rw [show (if 0 ≤ v9 ∧ v9 < 1000 then (1 : Int) else 0) = 1 from if_pos hq9]
      refine y_if_eq (tgt := 38) hx hb d_P_output_12 (by decide) ⟨by omega, by omega⟩ (fun hc2 => absurd hc2 (by decide)) (fun hc2 => ?_)
      refine lv_iload_n hx hb d_P_output_15 rfl (lv_at hl 3 rfl) ?_
      refine y_ci (y_runS (As := [.int (J (t9))]) (rest := []) ⟨hx, hb, hml, hown, hts⟩ (c_P_isScalar l G (t9) ht9) 1 k_co_P_isScalar k_ml_P_56 k_st_P_isScalar k_in_P rfl rfl (by decide +kernel) ⟨Nat.le_of_ble_eq_true rfl, Nat.le_of_ble_eq_true rfl⟩ (yPs0 (yK_bl G) (yK_mv G) hK) rfl hl.1 rfl (Nat.le_of_ble_eq_true rfl) d_P_output_16 ⟨Nat.zero_le _, Nat.zero_le _⟩) hS hW (fun H locs hW hS => ?_)
      by_cases hq16 : 0 ≤ t9 ∧ t9 < 2473
      · skip
        rw [show (if 0 ≤ t9 ∧ t9 < 2473 then (1 : Int) else 0) = 1 from if_pos hq16]
        refine y_if_eq (tgt := 38) hx hb d_P_output_19 (by decide) ⟨by omega, by omega⟩ (fun hc3 => absurd hc3 (by decide)) (fun hc3 => ?_)
        refine lv_iload hx hb d_P_output_22 (lv_at hl 4 rfl) ?_
        refine y_ci (y_runS (As := [.int (J (e9))]) (rest := []) ⟨hx, hb, hml, hown, hts⟩ (c_P_isScalar l G (e9) he9) 1 k_co_P_isScalar k_ml_P_56 k_st_P_isScalar k_in_P rfl rfl (by decide +kernel) ⟨Nat.le_of_ble_eq_true rfl, Nat.le_of_ble_eq_true rfl⟩ (yPs0 (yK_bl G) (yK_mv G) hK) rfl hl.1 rfl (Nat.le_of_ble_eq_true rfl) d_P_output_24 ⟨Nat.zero_le _, Nat.zero_le _⟩) hS hW (fun H locs hW hS => ?_)
        by_cases hq24 : 0 ≤ e9 ∧ e9 < 2473
        · skip
          rw [show (if 0 ≤ e9 ∧ e9 < 2473 then (1 : Int) else 0) = 1 from if_pos hq24]
          refine y_if_eq (tgt := 38) hx hb d_P_output_27 (by decide) ⟨by omega, by omega⟩ (fun hc4 => absurd hc4 (by decide)) (fun hc4 => ?_)
          refine lv_iload hx hb d_P_output_30 (lv_at hl 5 rfl) ?_
          refine y_ci (y_runS (As := [.int (J (w9))]) (rest := []) ⟨hx, hb, hml, hown, hts⟩ (c_P_isScalar l G (w9) hw9) 1 k_co_P_isScalar k_ml_P_56 k_st_P_isScalar k_in_P rfl rfl (by decide +kernel) ⟨Nat.le_of_ble_eq_true rfl, Nat.le_of_ble_eq_true rfl⟩ (yPs0 (yK_bl G) (yK_mv G) hK) rfl hl.1 rfl (Nat.le_of_ble_eq_true rfl) d_P_output_32 ⟨Nat.zero_le _, Nat.zero_le _⟩) hS hW (fun H locs hW hS => ?_)
          by_cases hq32 : 0 ≤ w9 ∧ w9 < 2473
          · skip
            rw [show (if 0 ≤ w9 ∧ w9 < 2473 then (1 : Int) else 0) = 1 from if_pos hq32]
            refine y_if_ne (tgt := 40) hx hb d_P_output_35 (by decide) ⟨by omega, by omega⟩ (fun hc5 => ?_) (fun hc5 => absurd hc5 (by decide))
            refine lv_aload_n hx hb d_P_output_40 rfl (lv_at hl 0 rfl) ?_
            refine y_getr hx hb hA in_P hown hK.1 hW 0 (by omega) lay_0 rfl 3 (by decide) (hA _ k_fl_P_41) rfl d_P_output_41 ?_
            refine y_geti hx hb hA in_Draft hown hK.1 hW 43 (by omega) lay_43 rfl 3 (by decide) (hA _ k_fl_P_97) rfl d_P_output_44 ?_
            rw [ho]
            refine lv_iconst (v := J (2)) hx hb d_P_output_47 rfl ?_
            refine y_icmp_ne (tgt := 53) hx hb d_P_output_48 (by decide) ⟨by omega, by omega⟩ ⟨by omega, by omega⟩ (fun hc6 => ?_) (fun hc6 => ?_)
            · skip
              obtain ⟨kn, e_kn⟩ : ∃ q : Nat, k = (q : Int) := ⟨(k).toNat, by omega⟩
              obtain ⟨en, e_en⟩ : ∃ q : Nat, e9 = (q : Int) := ⟨(e9).toNat, by omega⟩
              have hno2 : no < 2 := by omega
              refine lv_aload_n hx hb d_P_output_53 rfl (lv_at hl 0 rfl) ?_
              refine y_getr hx hb hA in_P hown hK.1 hW 0 (by omega) lay_0 rfl 3 (by decide) (hA _ k_fl_P_41) rfl d_P_output_54 ?_
              refine y_getr hx hb hA in_Draft hown hK.1 hW 43 (by omega) lay_43 rfl 1 (by decide) (hA _ k_fl_P_100) rfl d_P_output_57 ?_
              refine lv_aload_n hx hb d_P_output_60 rfl (lv_at hl 0 rfl) ?_
              refine y_getr hx hb hA in_P hown hK.1 hW 0 (by omega) lay_0 rfl 3 (by decide) (hA _ k_fl_P_41) rfl d_P_output_61 ?_
              refine y_geti hx hb hA in_Draft hown hK.1 hW 43 (by omega) lay_43 rfl 3 (by decide) (hA _ k_fl_P_97) rfl d_P_output_64 ?_
              rw [ho]
              refine y_aald hx hb hK.1 hW 45 (by omega) lay_45 rfl (by decide) no rfl (by omega) d_P_output_67 ?_
              refine lv_astore (lv' := [(6, .ref (z + (50 + no))), (0, .ref (z + 0)), (1, .int (J (k))), (2, .int (J (v9))), (3, .int (J (t9))), (4, .int (J (e9))), (5, .int (J (w9)))]) hx hb d_P_output_68 hl (by decide) rfl (fun ls hl => ?_)
              refine lv_aload hx hb d_P_output_70 (lv_at hl 0 rfl) ?_
              refine lv_aload_n hx hb d_P_output_72 rfl (lv_at hl 1 rfl) ?_
              refine y_getr hx hb hA in_P hown hK.1 hW 0 (by omega) lay_0 rfl 0 (by decide) (hA _ k_fl_P_10) rfl d_P_output_73 ?_
              refine lv_aload_n hx hb d_P_output_76 rfl (lv_at hl 1 rfl) ?_
              refine y_getr hx hb hA in_P hown hK.1 hW 0 (by omega) lay_0 rfl 4 (by decide) (hA _ k_fl_P_47) rfl d_P_output_77 ?_
              refine lv_iload_n hx hb d_P_output_80 rfl (lv_at hl 2 rfl) ?_
              refine y_aald hx hb hK.1 hW 52 (by omega) lay_52 rfl (by decide) kn (by omega) (by omega) d_P_output_81 ?_
              refine y_geti hx hb hA in_Key hown hK.1 hW (53 + 5 * kn) (by omega) (lay_Key (n := kn) (by omega)) rfl 1 (by decide) (hA _ k_fl_P_104) rfl d_P_output_82 ?_
              rw [hadr kn (by omega)]
              refine lv_iload_n hx hb d_P_output_85 rfl (lv_at hl 3 rfl) ?_
              refine lv_iload_n hx hb d_P_output_86 rfl (lv_at hl 4 rfl) ?_
              refine y_ch (y_runV (As := [.ref (z + 1), .int (J (eE (sec kn))), .int (J (v9)), .int (J (t9))]) (rest := []) ⟨hx, hb, hml, hown, hts⟩ (c_Output_fill l G z σ hBs no hno2 (sec kn) v9 t9 hv9 ht9) 4 k_co_Output_fill k_ml_P_107 k_im_Output_fill k_se_Output_fill k_in_Output rfl rfl (by decide +kernel) ⟨Nat.le_of_ble_eq_true rfl, Nat.le_of_ble_eq_true rfl⟩ (yPv (yK_bl G) (yK_mv G) hK hK.1 hW (by omega) (lay_Output (n := no) (by omega)) rfl (by omega) (by omega)) rfl hl.1 rfl (Nat.le_of_ble_eq_true rfl) d_P_output_87 ⟨Nat.zero_le _, Nat.zero_le _⟩) hS hAr (fun τ87 H locs hp87 hk87 hW hS => ?_)
              refine lv_aload hx hb d_P_output_90 (lv_at hl 0 rfl) ?_
              refine lv_aload_n hx hb d_P_output_92 rfl (lv_at hl 1 rfl) ?_
              refine y_getr hx hb hA in_P hown hK.1 hW 0 (by omega) lay_0 rfl 0 (by decide) (hA _ k_fl_P_10) rfl d_P_output_93 ?_
              refine lv_iload hx hb d_P_output_96 (lv_at hl 5 rfl) ?_
              refine lv_iload hx hb d_P_output_98 (lv_at hl 6 rfl) ?_
              refine W.eq (g2 := F0 m 100 ls [.int (J (w9)), .int (J ((en : Int))), .ref (z + 1), .ref (z + (50 + no))]) (by rw [e_en]) ?_
              refine y_ch (y_runV (As := [.ref (z + 1), .int (J ((en : Int))), .int (J (w9))]) (rest := []) ⟨hx, hb, hml, hown, hts⟩ (c_Output_seal l G z τ87 (yBs_to hBs (hp87.1 3 (by omega)) (hp87.1 5 (by omega)) (hp87.1 7 (by omega)) (hp87.1 9 (by omega)) (hp87.1 11 (by omega))) no hno2 (sec kn) v9 t9 en (by omega) w9 hw9 hp87.2.1 hp87.2.2.1 hp87.2.2.2.1 (by omega) (by omega)) 3 k_co_Output_seal k_ml_P_112 k_im_Output_seal k_se_Output_seal k_in_Output rfl rfl (by decide +kernel) ⟨Nat.le_of_ble_eq_true rfl, Nat.le_of_ble_eq_true rfl⟩ (yPv (yK_bl G) (yK_mv G) hK hK.1 hW (by omega) (lay_Output (n := no) (by omega)) rfl (by omega) (by omega)) rfl hl.1 rfl (Nat.le_of_ble_eq_true rfl) d_P_output_100 ⟨Nat.zero_le _, Nat.zero_le _⟩) hS hAr (fun τ100 H locs hp100 hk100 hW hS => ?_)
              refine lv_aload_n hx hb d_P_output_103 rfl (lv_at hl 1 rfl) ?_
              refine y_getr hx hb hA in_P hown hK.1 hW 0 (by omega) lay_0 rfl 3 (by decide) (hA _ k_fl_P_41) rfl d_P_output_104 ?_
              refine lv_dup hx hb d_P_output_107 rfl ?_
              refine y_geti hx hb hA in_Draft hown hK.1 hW 43 (by omega) lay_43 rfl 3 (by decide) (hA _ k_fl_P_97) rfl d_P_output_108 ?_
              rw [hp100.1 43 (by omega), hp87.1 43 (by omega)]
              rw [ho]
              refine lv_iconst (v := J (1)) hx hb d_P_output_111 rfl ?_
              refine y_iadd hx hb d_P_output_112 ?_
              refine y_puti hx hb hA in_Draft hown hK.1 hW 43 (by omega) lay_43 rfl 3 (by decide) t_Draft tk_Draft nm_Draft hS hAr (hA _ k_fl_P_97) rfl (by decide +kernel) rfl d_P_output_113 (fun H locs hW hS => ?_)
              refine lv_iconst (v := J (1)) hx hb d_P_output_116 rfl ?_
              exact y_retgz hx hb hr hlocks hS hW (Or.inr rfl) ⟨fun _ => ⟨rfl, by rw [show k.toNat = kn by omega]; obtain ⟨u1, u2, u3, u4, u5, u6⟩ := hp87; obtain ⟨x1, x2, x3, x4, x5, x6, x7⟩ := hp100; exact ⟨fun d h1 h2 => by rw [y2_ne h1, x1 d h2, u1 d h2], fun j hj => by rw [y2_ot hj, x1 43 (by omega), u1 43 (by omega)], y2_at, by rw [y2_cl (by omega), x2 0 (by decide), u2], by rw [y2_cl (by omega), x2 1 (by decide), u3], by rw [y2_cl (by omega), x2 2 (by decide), u4], by rw [y2_cl (by omega), x2 3 (by decide), u5], by rw [y2_cl (by omega), x3, e_en], by rw [y2_cl (by omega), x4, e_en], by rw [y2_cl (by omega), x5, e_en], by rw [y2_cl (by omega), x6], by rw [y2_cl (by omega), x7]⟩⟩, fun h => absurd ⟨by omega, by omega, by omega, by omega, by omega, by omega⟩ h⟩ d_P_output_117
            · skip
              refine lv_iconst (v := J (0)) hx hb d_P_output_51 rfl ?_
              exact y_retgz hx hb hr hlocks hS hW (Or.inl rfl) ⟨fun h => absurd h (by omega), fun _ => ⟨rfl, rfl⟩⟩ d_P_output_52
          · skip
            rw [show (if 0 ≤ w9 ∧ w9 < 2473 then (1 : Int) else 0) = 0 from if_neg hq32]
            refine y_if_ne (tgt := 40) hx hb d_P_output_35 (by decide) ⟨by omega, by omega⟩ (fun hc7 => absurd hc7 (by decide)) (fun hc7 => ?_)
            refine lv_iconst (v := J (0)) hx hb d_P_output_38 rfl ?_
            exact y_retgz hx hb hr hlocks hS hW (Or.inl rfl) ⟨fun h => absurd h (by omega), fun _ => ⟨rfl, rfl⟩⟩ d_P_output_39
        · skip
          rw [show (if 0 ≤ e9 ∧ e9 < 2473 then (1 : Int) else 0) = 0 from if_neg hq24]
          refine y_if_eq (tgt := 38) hx hb d_P_output_27 (by decide) ⟨by omega, by omega⟩ (fun hc8 => ?_) (fun hc8 => absurd hc8 (by decide))
          refine lv_iconst (v := J (0)) hx hb d_P_output_38 rfl ?_
          exact y_retgz hx hb hr hlocks hS hW (Or.inl rfl) ⟨fun h => absurd h (by omega), fun _ => ⟨rfl, rfl⟩⟩ d_P_output_39
      · skip
        rw [show (if 0 ≤ t9 ∧ t9 < 2473 then (1 : Int) else 0) = 0 from if_neg hq16]
        refine y_if_eq (tgt := 38) hx hb d_P_output_19 (by decide) ⟨by omega, by omega⟩ (fun hc9 => ?_) (fun hc9 => absurd hc9 (by decide))
        refine lv_iconst (v := J (0)) hx hb d_P_output_38 rfl ?_
        exact y_retgz hx hb hr hlocks hS hW (Or.inl rfl) ⟨fun h => absurd h (by omega), fun _ => ⟨rfl, rfl⟩⟩ d_P_output_39
    · skip
      rw [show (if 0 ≤ v9 ∧ v9 < 1000 then (1 : Int) else 0) = 0 from if_neg hq9]
      refine y_if_eq (tgt := 38) hx hb d_P_output_12 (by decide) ⟨by omega, by omega⟩ (fun hc10 => ?_) (fun hc10 => absurd hc10 (by decide))
      refine lv_iconst (v := J (0)) hx hb d_P_output_38 rfl ?_
      exact y_retgz hx hb hr hlocks hS hW (Or.inl rfl) ⟨fun h => absurd h (by omega), fun _ => ⟨rfl, rfl⟩⟩ d_P_output_39
  · skip
    rw [show (if 0 ≤ k ∧ k < (nk : Int) then (1 : Int) else 0) = 0 from if_neg hq2]
    refine y_if_eq (tgt := 38) hx hb d_P_output_5 (by decide) ⟨by omega, by omega⟩ (fun hc11 => ?_) (fun hc11 => absurd hc11 (by decide))
    refine lv_iconst (v := J (0)) hx hb d_P_output_38 rfl ?_
    exact y_retgz hx hb hr hlocks hS hW (Or.inl rfl) ⟨fun h => absurd h (by omega), fun _ => ⟨rfl, rfl⟩⟩ d_P_output_39

set_option maxHeartbeats 4000000 in
set_option maxRecDepth 100000 in
theorem c_P_alter (l : Launch) (G : yG) (z : Nat) (σ : yM) (ns no : Nat) (hns : ns ≤ 2) (hno : no ≤ 2) (hs : σ 43 2 = (ns : Int)) (ho : σ 43 3 = (no : Int)) (hBs : yBs σ) (hc5 : jr (σ 46 5)) (w9 x9 : Int) (hw9 : jr w9) (hx9 : jr x9) : Met l y_P_alter (Cond.code y_P_alter b_P_alter 3 (some .boolean) :: yT) ({ frames := 5, cells := 0, slots := 0, locals := 123 } : Room) (yP ycl G yLP 0 73 z σ (yK G) [.ref (z + 0), .int (J (w9)), .int (J (x9))]) (yQg ycl G yLP 0 73 z (fun v τ => (w9 = 0 → (0 < ns ∧ 0 ≤ x9 ∧ x9 < 10009 → v = 1 ∧ τ = y2 σ 46 7 x9) ∧ (¬ (0 < ns ∧ 0 ≤ x9 ∧ x9 < 10009) → v = 0 ∧ τ = σ)) ∧ (w9 = 1 → (0 < ns ∧ 0 ≤ x9 ∧ x9 < 10009 → v = 1 ∧ τ = y2 σ 46 8 x9) ∧ (¬ (0 < ns ∧ 0 ≤ x9 ∧ x9 < 10009) → v = 0 ∧ τ = σ)) ∧ (w9 = 2 → (0 < ns ∧ 0 ≤ x9 ∧ x9 < 1000 → v = 1 ∧ τ = y2 (y2 σ 46 3 x9) 46 9 (eE (1281 * x9 + 1369 * σ 46 5))) ∧ (¬ (0 < ns ∧ 0 ≤ x9 ∧ x9 < 1000) → v = 0 ∧ τ = σ)) ∧ (w9 = 3 → (0 < no ∧ 0 ≤ x9 ∧ x9 < 10009 → v = 1 ∧ τ = y2 σ 50 3 x9) ∧ (¬ (0 < no ∧ 0 ≤ x9 ∧ x9 < 10009) → v = 0 ∧ τ = σ)) ∧ (w9 = 4 → (0 < no ∧ 0 ≤ x9 ∧ x9 < 1000 → v = 1 ∧ τ = y2 σ 50 5 x9) ∧ (¬ (0 < no ∧ 0 ≤ x9 ∧ x9 < 1000) → v = 0 ∧ τ = σ)) ∧ (w9 = 5 → (0 ≤ x9 ∧ x9 < 2473 → v = 1 ∧ τ = y2 σ 43 5 x9) ∧ (¬ (0 ≤ x9 ∧ x9 < 2473) → v = 0 ∧ τ = σ)) ∧ (w9 < 0 ∨ 5 < w9 → v = 0 ∧ τ = σ))) 0 0 (yA z 0 73) := by
  refine y_met (by decide +kernel) (Nat.le_of_ble_eq_true rfl) ?_
  intro p e s m below meth c ls hx hb hr hml hlocks hown hname hts hv hl
  have hA : ∀ w ∈ yT, w.before _ s = true := fun w h => hts w (List.mem_cons_of_mem _ h)
  have hl : lv_has ls 3 [(0, .ref (z + 0)), (1, .int (J (w9))), (2, .int (J (x9)))] := hl
  obtain ⟨hW, hK⟩ := hv
  have hS : va_S (yA z 0 73) s.heap s.heap [] := va_S.rf
  have hAr : ∀ d, 0 ≤ d ∧ d < 0 + 73 → yA z 0 73 (z + d) := yA_all
  refine lv_iload_n hx hb d_P_alter_0 rfl (lv_at hl 1 rfl) ?_
  refine y_if_lt (tgt := 46) hx hb d_P_alter_1 (by decide) hw9 (fun hc1 => ?_) (fun hc1 => ?_)
  · skip
    refine lv_iload_n hx hb d_P_alter_46 rfl (lv_at hl 1 rfl) ?_
    refine lv_iconst (v := J (3)) hx hb d_P_alter_47 rfl ?_
    refine y_icmp_eq (tgt := 56) hx hb d_P_alter_48 (by decide) hw9 ⟨by omega, by omega⟩ (fun hc2 => ?_) (fun hc2 => ?_)
    · skip
      refine lv_aload_n hx hb d_P_alter_56 rfl (lv_at hl 0 rfl) ?_
      refine y_getr hx hb hA in_P hown hK.1 hW 0 (by omega) lay_0 rfl 3 (by decide) (hA _ k_fl_P_41) rfl d_P_alter_57 ?_
      refine y_geti hx hb hA in_Draft hown hK.1 hW 43 (by omega) lay_43 rfl 3 (by decide) (hA _ k_fl_P_97) rfl d_P_alter_60 ?_
      rw [ho]
      refine y_if_le (tgt := 87) hx hb d_P_alter_63 (by decide) ⟨by omega, by omega⟩ (fun hc3 => ?_) (fun hc3 => ?_)
      · skip
        refine lv_iconst (v := J (0)) hx hb d_P_alter_87 rfl ?_
        exact y_retgz hx hb hr hlocks hS hW (Or.inl rfl) ⟨fun h => ⟨fun ok => absurd ok (by omega), fun _ => ⟨rfl, rfl⟩⟩, fun h => ⟨fun ok => absurd ok (by omega), fun _ => ⟨rfl, rfl⟩⟩, fun h => ⟨fun ok => absurd ok (by omega), fun _ => ⟨rfl, rfl⟩⟩, fun h => ⟨fun ok => absurd ok (by omega), fun _ => ⟨rfl, rfl⟩⟩, fun h => ⟨fun ok => absurd ok (by omega), fun _ => ⟨rfl, rfl⟩⟩, fun h => ⟨fun ok => absurd ok (by omega), fun _ => ⟨rfl, rfl⟩⟩, fun _ => ⟨rfl, rfl⟩⟩ d_P_alter_88
      · skip
        refine lv_aload_n hx hb d_P_alter_66 rfl (lv_at hl 0 rfl) ?_
        refine y_getr hx hb hA in_P hown hK.1 hW 0 (by omega) lay_0 rfl 3 (by decide) (hA _ k_fl_P_41) rfl d_P_alter_67 ?_
        refine y_getr hx hb hA in_Draft hown hK.1 hW 43 (by omega) lay_43 rfl 1 (by decide) (hA _ k_fl_P_100) rfl d_P_alter_70 ?_
        refine lv_iconst (v := J (0)) hx hb d_P_alter_73 rfl ?_
        refine y_aald hx hb hK.1 hW 45 (by omega) lay_45 rfl (by decide) 0 rfl (by decide) d_P_alter_74 ?_
        refine lv_iload_n hx hb d_P_alter_75 rfl (lv_at hl 1 rfl) ?_
        refine lv_iload_n hx hb d_P_alter_76 rfl (lv_at hl 2 rfl) ?_
        refine y_cg (y_runV (As := [.int (J (w9)), .int (J (x9))]) (rest := []) ⟨hx, hb, hml, hown, hts⟩ (c_Output_change l G z σ 0 (by decide) (w9) (x9) hx9 hw9) 2 k_co_Output_change k_ml_P_123 k_im_Output_change k_se_Output_change k_in_Output rfl rfl (by decide +kernel) ⟨Nat.le_of_ble_eq_true rfl, Nat.le_of_ble_eq_true rfl⟩ (yPv (yK_bl G) (yK_mv G) hK hK.1 hW (by omega) (lay_Output (n := 0) (by omega)) rfl (by omega) (by omega)) rfl hl.1 rfl (Nat.le_of_ble_eq_true rfl) d_P_alter_77 ⟨Nat.zero_le _, Nat.zero_le _⟩) hS hAr (fun v77 τ77 H locs hp77 hk77 hW hS => ?_)
        have hv77 : v77 = 0 ∨ v77 = 1 := by by_cases hh : ((w9 = 3 ∧ 0 ≤ x9 ∧ x9 < 10009) ∨ (w9 ≠ 3 ∧ 0 ≤ x9 ∧ x9 < 1000)); exact Or.inr (hp77.1 hh).1; exact Or.inl (hp77.2 hh).1
        replace hp77 : hid _ := hp77
        refine y_if_eq (tgt := 87) hx hb d_P_alter_80 (by decide) ⟨by omega, by omega⟩ (fun hc4 => ?_) (fun hc4 => ?_)
        · skip
          refine lv_iconst (v := J (0)) hx hb d_P_alter_87 rfl ?_
          exact y_retgz hx hb hr hlocks hS hW (Or.inl rfl) (by
                                        have hh : ¬ ((w9 = 3 ∧ 0 ≤ x9 ∧ x9 < 10009) ∨ (w9 ≠ 3 ∧ 0 ≤ x9 ∧ x9 < 1000)) := fun hh => absurd ((hid_out hp77).1 hh).1 (by omega)
                                        have ht := ((hid_out hp77).2 hh).2
                                        replace hh : hid (¬ ((w9 = 3 ∧ 0 ≤ x9 ∧ x9 < 10009) ∨ (w9 ≠ 3 ∧ 0 ≤ x9 ∧ x9 < 1000))) := hh
                                        exact ⟨fun h => absurd h (by omega), fun h => absurd h (by omega), fun h => absurd h (by omega), fun h => ⟨fun ok => absurd (Or.inl ⟨by omega, by omega, by omega⟩) (hid_out hh), fun _ => ⟨rfl, ht⟩⟩, fun h => ⟨fun ok => absurd (Or.inr ⟨by omega, by omega, by omega⟩) (hid_out hh), fun _ => ⟨rfl, ht⟩⟩, fun h => absurd h (by omega), fun h => absurd h (by omega)⟩) d_P_alter_88
        · skip
          refine lv_iconst (v := J (1)) hx hb d_P_alter_83 rfl ?_
          refine lv_goto (tgt := 88) hx hb d_P_alter_84 (by decide) ?_
          exact y_retgz hx hb hr hlocks hS hW (Or.inr rfl) (by
                                        have hh : ((w9 = 3 ∧ 0 ≤ x9 ∧ x9 < 10009) ∨ (w9 ≠ 3 ∧ 0 ≤ x9 ∧ x9 < 1000)) := Decidable.byContradiction fun hh => absurd ((hid_out hp77).2 hh).1 (by omega)
                                        obtain ⟨u0, u1, u2⟩ := (hid_out hp77).1 hh
                                        exact ⟨fun h => absurd h (by omega), fun h => absurd h (by omega), fun h => absurd h (by omega), fun h => ⟨fun _ => ⟨rfl, u1 h⟩, fun hn => absurd ⟨by omega, by omega, by omega⟩ hn⟩, fun h => ⟨fun _ => ⟨rfl, u2 (by omega)⟩, fun hn => absurd ⟨by omega, by omega, by omega⟩ hn⟩, fun h => absurd h (by omega), fun h => absurd h (by omega)⟩) d_P_alter_88
    · skip
      refine lv_iload_n hx hb d_P_alter_51 rfl (lv_at hl 1 rfl) ?_
      refine lv_iconst (v := J (4)) hx hb d_P_alter_52 rfl ?_
      refine y_icmp_ne (tgt := 89) hx hb d_P_alter_53 (by decide) hw9 ⟨by omega, by omega⟩ (fun hc5 => ?_) (fun hc5 => ?_)
      · skip
        refine lv_iload_n hx hb d_P_alter_89 rfl (lv_at hl 1 rfl) ?_
        refine lv_iconst (v := J (5)) hx hb d_P_alter_90 rfl ?_
        refine y_icmp_ne (tgt := 101) hx hb d_P_alter_91 (by decide) hw9 ⟨by omega, by omega⟩ (fun hc6 => ?_) (fun hc6 => ?_)
        · skip
          refine lv_iconst (v := J (0)) hx hb d_P_alter_101 rfl ?_
          exact y_retgz hx hb hr hlocks hS hW (Or.inl rfl) ⟨fun h => ⟨fun ok => absurd ok (by omega), fun _ => ⟨rfl, rfl⟩⟩, fun h => ⟨fun ok => absurd ok (by omega), fun _ => ⟨rfl, rfl⟩⟩, fun h => ⟨fun ok => absurd ok (by omega), fun _ => ⟨rfl, rfl⟩⟩, fun h => ⟨fun ok => absurd ok (by omega), fun _ => ⟨rfl, rfl⟩⟩, fun h => ⟨fun ok => absurd ok (by omega), fun _ => ⟨rfl, rfl⟩⟩, fun h => ⟨fun ok => absurd ok (by omega), fun _ => ⟨rfl, rfl⟩⟩, fun _ => ⟨rfl, rfl⟩⟩ d_P_alter_102
        · skip
          refine lv_iload_n hx hb d_P_alter_94 rfl (lv_at hl 2 rfl) ?_
          refine y_ci (y_runS (As := [.int (J (x9))]) (rest := []) ⟨hx, hb, hml, hown, hts⟩ (c_P_isScalar l G (x9) hx9) 1 k_co_P_isScalar k_ml_P_56 k_st_P_isScalar k_in_P rfl rfl (by decide +kernel) ⟨Nat.le_of_ble_eq_true rfl, Nat.le_of_ble_eq_true rfl⟩ (yPs0 (yK_bl G) (yK_mv G) hK) rfl hl.1 rfl (Nat.le_of_ble_eq_true rfl) d_P_alter_95 ⟨Nat.zero_le _, Nat.zero_le _⟩) hS hW (fun H locs hW hS => ?_)
          by_cases hq95 : 0 ≤ x9 ∧ x9 < 2473
          · skip
            rw [show (if 0 ≤ x9 ∧ x9 < 2473 then (1 : Int) else 0) = 1 from if_pos hq95]
            refine y_if_ne (tgt := 103) hx hb d_P_alter_98 (by decide) ⟨by omega, by omega⟩ (fun hc7 => ?_) (fun hc7 => absurd hc7 (by decide))
            refine lv_aload_n hx hb d_P_alter_103 rfl (lv_at hl 0 rfl) ?_
            refine y_getr hx hb hA in_P hown hK.1 hW 0 (by omega) lay_0 rfl 3 (by decide) (hA _ k_fl_P_41) rfl d_P_alter_104 ?_
            refine lv_iload_n hx hb d_P_alter_107 rfl (lv_at hl 2 rfl) ?_
            refine y_puti hx hb hA in_Draft hown hK.1 hW 43 (by omega) lay_43 rfl 5 (by decide) t_Draft tk_Draft nm_Draft hS hAr (hA _ k_fl_P_125) rfl (by decide +kernel) rfl d_P_alter_108 (fun H locs hW hS => ?_)
            refine lv_iconst (v := J (1)) hx hb d_P_alter_111 rfl ?_
            exact y_retgz hx hb hr hlocks hS hW (Or.inr rfl) ⟨fun h => absurd h (by omega), fun h => absurd h (by omega), fun h => absurd h (by omega), fun h => absurd h (by omega), fun h => absurd h (by omega), fun _ => ⟨fun _ => ⟨rfl, rfl⟩, fun h => absurd (by omega) h⟩, fun h => absurd h (by omega)⟩ d_P_alter_112
          · skip
            rw [show (if 0 ≤ x9 ∧ x9 < 2473 then (1 : Int) else 0) = 0 from if_neg hq95]
            refine y_if_ne (tgt := 103) hx hb d_P_alter_98 (by decide) ⟨by omega, by omega⟩ (fun hc8 => absurd hc8 (by decide)) (fun hc8 => ?_)
            refine lv_iconst (v := J (0)) hx hb d_P_alter_101 rfl ?_
            exact y_retgz hx hb hr hlocks hS hW (Or.inl rfl) ⟨fun h => ⟨fun ok => absurd ok (by omega), fun _ => ⟨rfl, rfl⟩⟩, fun h => ⟨fun ok => absurd ok (by omega), fun _ => ⟨rfl, rfl⟩⟩, fun h => ⟨fun ok => absurd ok (by omega), fun _ => ⟨rfl, rfl⟩⟩, fun h => ⟨fun ok => absurd ok (by omega), fun _ => ⟨rfl, rfl⟩⟩, fun h => ⟨fun ok => absurd ok (by omega), fun _ => ⟨rfl, rfl⟩⟩, fun h => ⟨fun ok => absurd ok (by omega), fun _ => ⟨rfl, rfl⟩⟩, fun _ => ⟨rfl, rfl⟩⟩ d_P_alter_102
      · skip
        refine lv_aload_n hx hb d_P_alter_56 rfl (lv_at hl 0 rfl) ?_
        refine y_getr hx hb hA in_P hown hK.1 hW 0 (by omega) lay_0 rfl 3 (by decide) (hA _ k_fl_P_41) rfl d_P_alter_57 ?_
        refine y_geti hx hb hA in_Draft hown hK.1 hW 43 (by omega) lay_43 rfl 3 (by decide) (hA _ k_fl_P_97) rfl d_P_alter_60 ?_
        rw [ho]
        refine y_if_le (tgt := 87) hx hb d_P_alter_63 (by decide) ⟨by omega, by omega⟩ (fun hc9 => ?_) (fun hc9 => ?_)
        · skip
          refine lv_iconst (v := J (0)) hx hb d_P_alter_87 rfl ?_
          exact y_retgz hx hb hr hlocks hS hW (Or.inl rfl) ⟨fun h => ⟨fun ok => absurd ok (by omega), fun _ => ⟨rfl, rfl⟩⟩, fun h => ⟨fun ok => absurd ok (by omega), fun _ => ⟨rfl, rfl⟩⟩, fun h => ⟨fun ok => absurd ok (by omega), fun _ => ⟨rfl, rfl⟩⟩, fun h => ⟨fun ok => absurd ok (by omega), fun _ => ⟨rfl, rfl⟩⟩, fun h => ⟨fun ok => absurd ok (by omega), fun _ => ⟨rfl, rfl⟩⟩, fun h => ⟨fun ok => absurd ok (by omega), fun _ => ⟨rfl, rfl⟩⟩, fun _ => ⟨rfl, rfl⟩⟩ d_P_alter_88
        · skip
          refine lv_aload_n hx hb d_P_alter_66 rfl (lv_at hl 0 rfl) ?_
          refine y_getr hx hb hA in_P hown hK.1 hW 0 (by omega) lay_0 rfl 3 (by decide) (hA _ k_fl_P_41) rfl d_P_alter_67 ?_
          refine y_getr hx hb hA in_Draft hown hK.1 hW 43 (by omega) lay_43 rfl 1 (by decide) (hA _ k_fl_P_100) rfl d_P_alter_70 ?_
          refine lv_iconst (v := J (0)) hx hb d_P_alter_73 rfl ?_
          refine y_aald hx hb hK.1 hW 45 (by omega) lay_45 rfl (by decide) 0 rfl (by decide) d_P_alter_74 ?_
          refine lv_iload_n hx hb d_P_alter_75 rfl (lv_at hl 1 rfl) ?_
          refine lv_iload_n hx hb d_P_alter_76 rfl (lv_at hl 2 rfl) ?_
          refine y_cg (y_runV (As := [.int (J (w9)), .int (J (x9))]) (rest := []) ⟨hx, hb, hml, hown, hts⟩ (c_Output_change l G z σ 0 (by decide) (w9) (x9) hx9 hw9) 2 k_co_Output_change k_ml_P_123 k_im_Output_change k_se_Output_change k_in_Output rfl rfl (by decide +kernel) ⟨Nat.le_of_ble_eq_true rfl, Nat.le_of_ble_eq_true rfl⟩ (yPv (yK_bl G) (yK_mv G) hK hK.1 hW (by omega) (lay_Output (n := 0) (by omega)) rfl (by omega) (by omega)) rfl hl.1 rfl (Nat.le_of_ble_eq_true rfl) d_P_alter_77 ⟨Nat.zero_le _, Nat.zero_le _⟩) hS hAr (fun v77 τ77 H locs hp77 hk77 hW hS => ?_)
          have hv77 : v77 = 0 ∨ v77 = 1 := by by_cases hh : ((w9 = 3 ∧ 0 ≤ x9 ∧ x9 < 10009) ∨ (w9 ≠ 3 ∧ 0 ≤ x9 ∧ x9 < 1000)); exact Or.inr (hp77.1 hh).1; exact Or.inl (hp77.2 hh).1
          replace hp77 : hid _ := hp77
          refine y_if_eq (tgt := 87) hx hb d_P_alter_80 (by decide) ⟨by omega, by omega⟩ (fun hc10 => ?_) (fun hc10 => ?_)
          · skip
            refine lv_iconst (v := J (0)) hx hb d_P_alter_87 rfl ?_
            exact y_retgz hx hb hr hlocks hS hW (Or.inl rfl) (by
                                        have hh : ¬ ((w9 = 3 ∧ 0 ≤ x9 ∧ x9 < 10009) ∨ (w9 ≠ 3 ∧ 0 ≤ x9 ∧ x9 < 1000)) := fun hh => absurd ((hid_out hp77).1 hh).1 (by omega)
                                        have ht := ((hid_out hp77).2 hh).2
                                        replace hh : hid (¬ ((w9 = 3 ∧ 0 ≤ x9 ∧ x9 < 10009) ∨ (w9 ≠ 3 ∧ 0 ≤ x9 ∧ x9 < 1000))) := hh
                                        exact ⟨fun h => absurd h (by omega), fun h => absurd h (by omega), fun h => absurd h (by omega), fun h => ⟨fun ok => absurd (Or.inl ⟨by omega, by omega, by omega⟩) (hid_out hh), fun _ => ⟨rfl, ht⟩⟩, fun h => ⟨fun ok => absurd (Or.inr ⟨by omega, by omega, by omega⟩) (hid_out hh), fun _ => ⟨rfl, ht⟩⟩, fun h => absurd h (by omega), fun h => absurd h (by omega)⟩) d_P_alter_88
          · skip
            refine lv_iconst (v := J (1)) hx hb d_P_alter_83 rfl ?_
            refine lv_goto (tgt := 88) hx hb d_P_alter_84 (by decide) ?_
            exact y_retgz hx hb hr hlocks hS hW (Or.inr rfl) (by
                                        have hh : ((w9 = 3 ∧ 0 ≤ x9 ∧ x9 < 10009) ∨ (w9 ≠ 3 ∧ 0 ≤ x9 ∧ x9 < 1000)) := Decidable.byContradiction fun hh => absurd ((hid_out hp77).2 hh).1 (by omega)
                                        obtain ⟨u0, u1, u2⟩ := (hid_out hp77).1 hh
                                        exact ⟨fun h => absurd h (by omega), fun h => absurd h (by omega), fun h => absurd h (by omega), fun h => ⟨fun _ => ⟨rfl, u1 h⟩, fun hn => absurd ⟨by omega, by omega, by omega⟩ hn⟩, fun h => ⟨fun _ => ⟨rfl, u2 (by omega)⟩, fun hn => absurd ⟨by omega, by omega, by omega⟩ hn⟩, fun h => absurd h (by omega), fun h => absurd h (by omega)⟩) d_P_alter_88
  · skip
    refine lv_iload_n hx hb d_P_alter_4 rfl (lv_at hl 1 rfl) ?_
    refine lv_iconst (v := J (2)) hx hb d_P_alter_5 rfl ?_
    refine y_icmp_gt (tgt := 46) hx hb d_P_alter_6 (by decide) hw9 ⟨by omega, by omega⟩ (fun hc11 => ?_) (fun hc11 => ?_)
    · skip
      refine lv_iload_n hx hb d_P_alter_46 rfl (lv_at hl 1 rfl) ?_
      refine lv_iconst (v := J (3)) hx hb d_P_alter_47 rfl ?_
      refine y_icmp_eq (tgt := 56) hx hb d_P_alter_48 (by decide) hw9 ⟨by omega, by omega⟩ (fun hc12 => ?_) (fun hc12 => ?_)
      · skip
        refine lv_aload_n hx hb d_P_alter_56 rfl (lv_at hl 0 rfl) ?_
        refine y_getr hx hb hA in_P hown hK.1 hW 0 (by omega) lay_0 rfl 3 (by decide) (hA _ k_fl_P_41) rfl d_P_alter_57 ?_
        refine y_geti hx hb hA in_Draft hown hK.1 hW 43 (by omega) lay_43 rfl 3 (by decide) (hA _ k_fl_P_97) rfl d_P_alter_60 ?_
        rw [ho]
        refine y_if_le (tgt := 87) hx hb d_P_alter_63 (by decide) ⟨by omega, by omega⟩ (fun hc13 => ?_) (fun hc13 => ?_)
        · skip
          refine lv_iconst (v := J (0)) hx hb d_P_alter_87 rfl ?_
          exact y_retgz hx hb hr hlocks hS hW (Or.inl rfl) ⟨fun h => ⟨fun ok => absurd ok (by omega), fun _ => ⟨rfl, rfl⟩⟩, fun h => ⟨fun ok => absurd ok (by omega), fun _ => ⟨rfl, rfl⟩⟩, fun h => ⟨fun ok => absurd ok (by omega), fun _ => ⟨rfl, rfl⟩⟩, fun h => ⟨fun ok => absurd ok (by omega), fun _ => ⟨rfl, rfl⟩⟩, fun h => ⟨fun ok => absurd ok (by omega), fun _ => ⟨rfl, rfl⟩⟩, fun h => ⟨fun ok => absurd ok (by omega), fun _ => ⟨rfl, rfl⟩⟩, fun _ => ⟨rfl, rfl⟩⟩ d_P_alter_88
        · skip
          refine lv_aload_n hx hb d_P_alter_66 rfl (lv_at hl 0 rfl) ?_
          refine y_getr hx hb hA in_P hown hK.1 hW 0 (by omega) lay_0 rfl 3 (by decide) (hA _ k_fl_P_41) rfl d_P_alter_67 ?_
          refine y_getr hx hb hA in_Draft hown hK.1 hW 43 (by omega) lay_43 rfl 1 (by decide) (hA _ k_fl_P_100) rfl d_P_alter_70 ?_
          refine lv_iconst (v := J (0)) hx hb d_P_alter_73 rfl ?_
          refine y_aald hx hb hK.1 hW 45 (by omega) lay_45 rfl (by decide) 0 rfl (by decide) d_P_alter_74 ?_
          refine lv_iload_n hx hb d_P_alter_75 rfl (lv_at hl 1 rfl) ?_
          refine lv_iload_n hx hb d_P_alter_76 rfl (lv_at hl 2 rfl) ?_
          refine y_cg (y_runV (As := [.int (J (w9)), .int (J (x9))]) (rest := []) ⟨hx, hb, hml, hown, hts⟩ (c_Output_change l G z σ 0 (by decide) (w9) (x9) hx9 hw9) 2 k_co_Output_change k_ml_P_123 k_im_Output_change k_se_Output_change k_in_Output rfl rfl (by decide +kernel) ⟨Nat.le_of_ble_eq_true rfl, Nat.le_of_ble_eq_true rfl⟩ (yPv (yK_bl G) (yK_mv G) hK hK.1 hW (by omega) (lay_Output (n := 0) (by omega)) rfl (by omega) (by omega)) rfl hl.1 rfl (Nat.le_of_ble_eq_true rfl) d_P_alter_77 ⟨Nat.zero_le _, Nat.zero_le _⟩) hS hAr (fun v77 τ77 H locs hp77 hk77 hW hS => ?_)
          have hv77 : v77 = 0 ∨ v77 = 1 := by by_cases hh : ((w9 = 3 ∧ 0 ≤ x9 ∧ x9 < 10009) ∨ (w9 ≠ 3 ∧ 0 ≤ x9 ∧ x9 < 1000)); exact Or.inr (hp77.1 hh).1; exact Or.inl (hp77.2 hh).1
          replace hp77 : hid _ := hp77
          refine y_if_eq (tgt := 87) hx hb d_P_alter_80 (by decide) ⟨by omega, by omega⟩ (fun hc14 => ?_) (fun hc14 => ?_)
          · skip
            refine lv_iconst (v := J (0)) hx hb d_P_alter_87 rfl ?_
            exact y_retgz hx hb hr hlocks hS hW (Or.inl rfl) (by
                                        have hh : ¬ ((w9 = 3 ∧ 0 ≤ x9 ∧ x9 < 10009) ∨ (w9 ≠ 3 ∧ 0 ≤ x9 ∧ x9 < 1000)) := fun hh => absurd ((hid_out hp77).1 hh).1 (by omega)
                                        have ht := ((hid_out hp77).2 hh).2
                                        replace hh : hid (¬ ((w9 = 3 ∧ 0 ≤ x9 ∧ x9 < 10009) ∨ (w9 ≠ 3 ∧ 0 ≤ x9 ∧ x9 < 1000))) := hh
                                        exact ⟨fun h => absurd h (by omega), fun h => absurd h (by omega), fun h => absurd h (by omega), fun h => ⟨fun ok => absurd (Or.inl ⟨by omega, by omega, by omega⟩) (hid_out hh), fun _ => ⟨rfl, ht⟩⟩, fun h => ⟨fun ok => absurd (Or.inr ⟨by omega, by omega, by omega⟩) (hid_out hh), fun _ => ⟨rfl, ht⟩⟩, fun h => absurd h (by omega), fun h => absurd h (by omega)⟩) d_P_alter_88
          · skip
            refine lv_iconst (v := J (1)) hx hb d_P_alter_83 rfl ?_
            refine lv_goto (tgt := 88) hx hb d_P_alter_84 (by decide) ?_
            exact y_retgz hx hb hr hlocks hS hW (Or.inr rfl) (by
                                        have hh : ((w9 = 3 ∧ 0 ≤ x9 ∧ x9 < 10009) ∨ (w9 ≠ 3 ∧ 0 ≤ x9 ∧ x9 < 1000)) := Decidable.byContradiction fun hh => absurd ((hid_out hp77).2 hh).1 (by omega)
                                        obtain ⟨u0, u1, u2⟩ := (hid_out hp77).1 hh
                                        exact ⟨fun h => absurd h (by omega), fun h => absurd h (by omega), fun h => absurd h (by omega), fun h => ⟨fun _ => ⟨rfl, u1 h⟩, fun hn => absurd ⟨by omega, by omega, by omega⟩ hn⟩, fun h => ⟨fun _ => ⟨rfl, u2 (by omega)⟩, fun hn => absurd ⟨by omega, by omega, by omega⟩ hn⟩, fun h => absurd h (by omega), fun h => absurd h (by omega)⟩) d_P_alter_88
      · skip
        refine lv_iload_n hx hb d_P_alter_51 rfl (lv_at hl 1 rfl) ?_
        refine lv_iconst (v := J (4)) hx hb d_P_alter_52 rfl ?_
        refine y_icmp_ne (tgt := 89) hx hb d_P_alter_53 (by decide) hw9 ⟨by omega, by omega⟩ (fun hc15 => ?_) (fun hc15 => ?_)
        · skip
          refine lv_iload_n hx hb d_P_alter_89 rfl (lv_at hl 1 rfl) ?_
          refine lv_iconst (v := J (5)) hx hb d_P_alter_90 rfl ?_
          refine y_icmp_ne (tgt := 101) hx hb d_P_alter_91 (by decide) hw9 ⟨by omega, by omega⟩ (fun hc16 => ?_) (fun hc16 => ?_)
          · skip
            refine lv_iconst (v := J (0)) hx hb d_P_alter_101 rfl ?_
            exact y_retgz hx hb hr hlocks hS hW (Or.inl rfl) ⟨fun h => ⟨fun ok => absurd ok (by omega), fun _ => ⟨rfl, rfl⟩⟩, fun h => ⟨fun ok => absurd ok (by omega), fun _ => ⟨rfl, rfl⟩⟩, fun h => ⟨fun ok => absurd ok (by omega), fun _ => ⟨rfl, rfl⟩⟩, fun h => ⟨fun ok => absurd ok (by omega), fun _ => ⟨rfl, rfl⟩⟩, fun h => ⟨fun ok => absurd ok (by omega), fun _ => ⟨rfl, rfl⟩⟩, fun h => ⟨fun ok => absurd ok (by omega), fun _ => ⟨rfl, rfl⟩⟩, fun _ => ⟨rfl, rfl⟩⟩ d_P_alter_102
          · skip
            refine lv_iload_n hx hb d_P_alter_94 rfl (lv_at hl 2 rfl) ?_
            refine y_ci (y_runS (As := [.int (J (x9))]) (rest := []) ⟨hx, hb, hml, hown, hts⟩ (c_P_isScalar l G (x9) hx9) 1 k_co_P_isScalar k_ml_P_56 k_st_P_isScalar k_in_P rfl rfl (by decide +kernel) ⟨Nat.le_of_ble_eq_true rfl, Nat.le_of_ble_eq_true rfl⟩ (yPs0 (yK_bl G) (yK_mv G) hK) rfl hl.1 rfl (Nat.le_of_ble_eq_true rfl) d_P_alter_95 ⟨Nat.zero_le _, Nat.zero_le _⟩) hS hW (fun H locs hW hS => ?_)
            by_cases hq95 : 0 ≤ x9 ∧ x9 < 2473
            · skip
              rw [show (if 0 ≤ x9 ∧ x9 < 2473 then (1 : Int) else 0) = 1 from if_pos hq95]
              refine y_if_ne (tgt := 103) hx hb d_P_alter_98 (by decide) ⟨by omega, by omega⟩ (fun hc17 => ?_) (fun hc17 => absurd hc17 (by decide))
              refine lv_aload_n hx hb d_P_alter_103 rfl (lv_at hl 0 rfl) ?_
              refine y_getr hx hb hA in_P hown hK.1 hW 0 (by omega) lay_0 rfl 3 (by decide) (hA _ k_fl_P_41) rfl d_P_alter_104 ?_
              refine lv_iload_n hx hb d_P_alter_107 rfl (lv_at hl 2 rfl) ?_
              refine y_puti hx hb hA in_Draft hown hK.1 hW 43 (by omega) lay_43 rfl 5 (by decide) t_Draft tk_Draft nm_Draft hS hAr (hA _ k_fl_P_125) rfl (by decide +kernel) rfl d_P_alter_108 (fun H locs hW hS => ?_)
              refine lv_iconst (v := J (1)) hx hb d_P_alter_111 rfl ?_
              exact y_retgz hx hb hr hlocks hS hW (Or.inr rfl) ⟨fun h => absurd h (by omega), fun h => absurd h (by omega), fun h => absurd h (by omega), fun h => absurd h (by omega), fun h => absurd h (by omega), fun _ => ⟨fun _ => ⟨rfl, rfl⟩, fun h => absurd (by omega) h⟩, fun h => absurd h (by omega)⟩ d_P_alter_112
            · skip
              rw [show (if 0 ≤ x9 ∧ x9 < 2473 then (1 : Int) else 0) = 0 from if_neg hq95]
              refine y_if_ne (tgt := 103) hx hb d_P_alter_98 (by decide) ⟨by omega, by omega⟩ (fun hc18 => absurd hc18 (by decide)) (fun hc18 => ?_)
              refine lv_iconst (v := J (0)) hx hb d_P_alter_101 rfl ?_
              exact y_retgz hx hb hr hlocks hS hW (Or.inl rfl) ⟨fun h => ⟨fun ok => absurd ok (by omega), fun _ => ⟨rfl, rfl⟩⟩, fun h => ⟨fun ok => absurd ok (by omega), fun _ => ⟨rfl, rfl⟩⟩, fun h => ⟨fun ok => absurd ok (by omega), fun _ => ⟨rfl, rfl⟩⟩, fun h => ⟨fun ok => absurd ok (by omega), fun _ => ⟨rfl, rfl⟩⟩, fun h => ⟨fun ok => absurd ok (by omega), fun _ => ⟨rfl, rfl⟩⟩, fun h => ⟨fun ok => absurd ok (by omega), fun _ => ⟨rfl, rfl⟩⟩, fun _ => ⟨rfl, rfl⟩⟩ d_P_alter_102
        · skip
          refine lv_aload_n hx hb d_P_alter_56 rfl (lv_at hl 0 rfl) ?_
          refine y_getr hx hb hA in_P hown hK.1 hW 0 (by omega) lay_0 rfl 3 (by decide) (hA _ k_fl_P_41) rfl d_P_alter_57 ?_
          refine y_geti hx hb hA in_Draft hown hK.1 hW 43 (by omega) lay_43 rfl 3 (by decide) (hA _ k_fl_P_97) rfl d_P_alter_60 ?_
          rw [ho]
          refine y_if_le (tgt := 87) hx hb d_P_alter_63 (by decide) ⟨by omega, by omega⟩ (fun hc19 => ?_) (fun hc19 => ?_)
          · skip
            refine lv_iconst (v := J (0)) hx hb d_P_alter_87 rfl ?_
            exact y_retgz hx hb hr hlocks hS hW (Or.inl rfl) ⟨fun h => ⟨fun ok => absurd ok (by omega), fun _ => ⟨rfl, rfl⟩⟩, fun h => ⟨fun ok => absurd ok (by omega), fun _ => ⟨rfl, rfl⟩⟩, fun h => ⟨fun ok => absurd ok (by omega), fun _ => ⟨rfl, rfl⟩⟩, fun h => ⟨fun ok => absurd ok (by omega), fun _ => ⟨rfl, rfl⟩⟩, fun h => ⟨fun ok => absurd ok (by omega), fun _ => ⟨rfl, rfl⟩⟩, fun h => ⟨fun ok => absurd ok (by omega), fun _ => ⟨rfl, rfl⟩⟩, fun _ => ⟨rfl, rfl⟩⟩ d_P_alter_88
          · skip
            refine lv_aload_n hx hb d_P_alter_66 rfl (lv_at hl 0 rfl) ?_
            refine y_getr hx hb hA in_P hown hK.1 hW 0 (by omega) lay_0 rfl 3 (by decide) (hA _ k_fl_P_41) rfl d_P_alter_67 ?_
            refine y_getr hx hb hA in_Draft hown hK.1 hW 43 (by omega) lay_43 rfl 1 (by decide) (hA _ k_fl_P_100) rfl d_P_alter_70 ?_
            refine lv_iconst (v := J (0)) hx hb d_P_alter_73 rfl ?_
            refine y_aald hx hb hK.1 hW 45 (by omega) lay_45 rfl (by decide) 0 rfl (by decide) d_P_alter_74 ?_
            refine lv_iload_n hx hb d_P_alter_75 rfl (lv_at hl 1 rfl) ?_
            refine lv_iload_n hx hb d_P_alter_76 rfl (lv_at hl 2 rfl) ?_
            refine y_cg (y_runV (As := [.int (J (w9)), .int (J (x9))]) (rest := []) ⟨hx, hb, hml, hown, hts⟩ (c_Output_change l G z σ 0 (by decide) (w9) (x9) hx9 hw9) 2 k_co_Output_change k_ml_P_123 k_im_Output_change k_se_Output_change k_in_Output rfl rfl (by decide +kernel) ⟨Nat.le_of_ble_eq_true rfl, Nat.le_of_ble_eq_true rfl⟩ (yPv (yK_bl G) (yK_mv G) hK hK.1 hW (by omega) (lay_Output (n := 0) (by omega)) rfl (by omega) (by omega)) rfl hl.1 rfl (Nat.le_of_ble_eq_true rfl) d_P_alter_77 ⟨Nat.zero_le _, Nat.zero_le _⟩) hS hAr (fun v77 τ77 H locs hp77 hk77 hW hS => ?_)
            have hv77 : v77 = 0 ∨ v77 = 1 := by by_cases hh : ((w9 = 3 ∧ 0 ≤ x9 ∧ x9 < 10009) ∨ (w9 ≠ 3 ∧ 0 ≤ x9 ∧ x9 < 1000)); exact Or.inr (hp77.1 hh).1; exact Or.inl (hp77.2 hh).1
            replace hp77 : hid _ := hp77
            refine y_if_eq (tgt := 87) hx hb d_P_alter_80 (by decide) ⟨by omega, by omega⟩ (fun hc20 => ?_) (fun hc20 => ?_)
            · skip
              refine lv_iconst (v := J (0)) hx hb d_P_alter_87 rfl ?_
              exact y_retgz hx hb hr hlocks hS hW (Or.inl rfl) (by
                                        have hh : ¬ ((w9 = 3 ∧ 0 ≤ x9 ∧ x9 < 10009) ∨ (w9 ≠ 3 ∧ 0 ≤ x9 ∧ x9 < 1000)) := fun hh => absurd ((hid_out hp77).1 hh).1 (by omega)
                                        have ht := ((hid_out hp77).2 hh).2
                                        replace hh : hid (¬ ((w9 = 3 ∧ 0 ≤ x9 ∧ x9 < 10009) ∨ (w9 ≠ 3 ∧ 0 ≤ x9 ∧ x9 < 1000))) := hh
                                        exact ⟨fun h => absurd h (by omega), fun h => absurd h (by omega), fun h => absurd h (by omega), fun h => ⟨fun ok => absurd (Or.inl ⟨by omega, by omega, by omega⟩) (hid_out hh), fun _ => ⟨rfl, ht⟩⟩, fun h => ⟨fun ok => absurd (Or.inr ⟨by omega, by omega, by omega⟩) (hid_out hh), fun _ => ⟨rfl, ht⟩⟩, fun h => absurd h (by omega), fun h => absurd h (by omega)⟩) d_P_alter_88
            · skip
              refine lv_iconst (v := J (1)) hx hb d_P_alter_83 rfl ?_
              refine lv_goto (tgt := 88) hx hb d_P_alter_84 (by decide) ?_
              exact y_retgz hx hb hr hlocks hS hW (Or.inr rfl) (by
                                        have hh : ((w9 = 3 ∧ 0 ≤ x9 ∧ x9 < 10009) ∨ (w9 ≠ 3 ∧ 0 ≤ x9 ∧ x9 < 1000)) := Decidable.byContradiction fun hh => absurd ((hid_out hp77).2 hh).1 (by omega)
                                        obtain ⟨u0, u1, u2⟩ := (hid_out hp77).1 hh
                                        exact ⟨fun h => absurd h (by omega), fun h => absurd h (by omega), fun h => absurd h (by omega), fun h => ⟨fun _ => ⟨rfl, u1 h⟩, fun hn => absurd ⟨by omega, by omega, by omega⟩ hn⟩, fun h => ⟨fun _ => ⟨rfl, u2 (by omega)⟩, fun hn => absurd ⟨by omega, by omega, by omega⟩ hn⟩, fun h => absurd h (by omega), fun h => absurd h (by omega)⟩) d_P_alter_88
    · skip
      refine lv_aload_n hx hb d_P_alter_9 rfl (lv_at hl 0 rfl) ?_
      refine y_getr hx hb hA in_P hown hK.1 hW 0 (by omega) lay_0 rfl 3 (by decide) (hA _ k_fl_P_41) rfl d_P_alter_10 ?_
      refine y_geti hx hb hA in_Draft hown hK.1 hW 43 (by omega) lay_43 rfl 2 (by decide) (hA _ k_fl_P_78) rfl d_P_alter_13 ?_
      rw [hs]
      refine y_if_le (tgt := 44) hx hb d_P_alter_16 (by decide) ⟨by omega, by omega⟩ (fun hc21 => ?_) (fun hc21 => ?_)
      · skip
        refine lv_iconst (v := J (0)) hx hb d_P_alter_44 rfl ?_
        exact y_retgz hx hb hr hlocks hS hW (Or.inl rfl) ⟨fun h => ⟨fun ok => absurd ok (by omega), fun _ => ⟨rfl, rfl⟩⟩, fun h => ⟨fun ok => absurd ok (by omega), fun _ => ⟨rfl, rfl⟩⟩, fun h => ⟨fun ok => absurd ok (by omega), fun _ => ⟨rfl, rfl⟩⟩, fun h => ⟨fun ok => absurd ok (by omega), fun _ => ⟨rfl, rfl⟩⟩, fun h => ⟨fun ok => absurd ok (by omega), fun _ => ⟨rfl, rfl⟩⟩, fun h => ⟨fun ok => absurd ok (by omega), fun _ => ⟨rfl, rfl⟩⟩, fun _ => ⟨rfl, rfl⟩⟩ d_P_alter_45
      · skip
        refine lv_aload_n hx hb d_P_alter_19 rfl (lv_at hl 0 rfl) ?_
        refine y_getr hx hb hA in_P hown hK.1 hW 0 (by omega) lay_0 rfl 3 (by decide) (hA _ k_fl_P_41) rfl d_P_alter_20 ?_
        refine y_getr hx hb hA in_Draft hown hK.1 hW 43 (by omega) lay_43 rfl 0 (by decide) (hA _ k_fl_P_81) rfl d_P_alter_23 ?_
        refine lv_iconst (v := J (0)) hx hb d_P_alter_26 rfl ?_
        refine y_aald hx hb hK.1 hW 44 (by omega) lay_44 rfl (by decide) 0 rfl (by decide) d_P_alter_27 ?_
        refine lv_aload_n hx hb d_P_alter_28 rfl (lv_at hl 0 rfl) ?_
        refine y_getr hx hb hA in_P hown hK.1 hW 0 (by omega) lay_0 rfl 0 (by decide) (hA _ k_fl_P_10) rfl d_P_alter_29 ?_
        refine lv_iload_n hx hb d_P_alter_32 rfl (lv_at hl 1 rfl) ?_
        refine lv_iload_n hx hb d_P_alter_33 rfl (lv_at hl 2 rfl) ?_
        refine y_cg (y_runV (As := [.ref (z + 1), .int (J (w9)), .int (J (x9))]) (rest := []) ⟨hx, hb, hml, hown, hts⟩ (c_Spend_change l G z σ hBs 0 (by decide) (w9) (x9) hx9 ⟨by omega, by omega⟩ hc5) 3 k_co_Spend_change k_ml_P_119 k_im_Spend_change k_se_Spend_change k_in_Spend rfl rfl (by decide +kernel) ⟨Nat.le_of_ble_eq_true rfl, Nat.le_of_ble_eq_true rfl⟩ (yPv (yK_bl G) (yK_mv G) hK hK.1 hW (by omega) (lay_Spend (n := 0) (by omega)) rfl (by omega) (by omega)) rfl hl.1 rfl (Nat.le_of_ble_eq_true rfl) d_P_alter_34 ⟨Nat.zero_le _, Nat.zero_le _⟩) hS hAr (fun v34 τ34 H locs hp34 hk34 hW hS => ?_)
        have hv34 : v34 = 0 ∨ v34 = 1 := by by_cases hh : ((w9 = 2 ∧ 0 ≤ x9 ∧ x9 < 1000) ∨ (w9 ≠ 2 ∧ 0 ≤ x9 ∧ x9 < 10009)); exact Or.inr (hp34.1 hh).1; exact Or.inl (hp34.2 hh).1
        replace hp34 : hid _ := hp34
        refine y_if_eq (tgt := 44) hx hb d_P_alter_37 (by decide) ⟨by omega, by omega⟩ (fun hc22 => ?_) (fun hc22 => ?_)
        · skip
          refine lv_iconst (v := J (0)) hx hb d_P_alter_44 rfl ?_
          exact y_retgz hx hb hr hlocks hS hW (Or.inl rfl) (by
                                        have hh : ¬ ((w9 = 2 ∧ 0 ≤ x9 ∧ x9 < 1000) ∨ (w9 ≠ 2 ∧ 0 ≤ x9 ∧ x9 < 10009)) := fun hh => absurd ((hid_out hp34).1 hh).1 (by omega)
                                        have ht := ((hid_out hp34).2 hh).2
                                        replace hh : hid (¬ ((w9 = 2 ∧ 0 ≤ x9 ∧ x9 < 1000) ∨ (w9 ≠ 2 ∧ 0 ≤ x9 ∧ x9 < 10009))) := hh
                                        exact ⟨fun h => ⟨fun ok => absurd (Or.inr ⟨by omega, by omega, by omega⟩) (hid_out hh), fun _ => ⟨rfl, ht⟩⟩, fun h => ⟨fun ok => absurd (Or.inr ⟨by omega, by omega, by omega⟩) (hid_out hh), fun _ => ⟨rfl, ht⟩⟩, fun h => ⟨fun ok => absurd (Or.inl ⟨by omega, by omega, by omega⟩) (hid_out hh), fun _ => ⟨rfl, ht⟩⟩, fun h => absurd h (by omega), fun h => absurd h (by omega), fun h => absurd h (by omega), fun h => absurd h (by omega)⟩) d_P_alter_45
        · skip
          refine lv_iconst (v := J (1)) hx hb d_P_alter_40 rfl ?_
          refine lv_goto (tgt := 45) hx hb d_P_alter_41 (by decide) ?_
          exact y_retgz hx hb hr hlocks hS hW (Or.inr rfl) (by
                                        have hh : ((w9 = 2 ∧ 0 ≤ x9 ∧ x9 < 1000) ∨ (w9 ≠ 2 ∧ 0 ≤ x9 ∧ x9 < 10009)) := Decidable.byContradiction fun hh => absurd ((hid_out hp34).2 hh).1 (by omega)
                                        obtain ⟨u0, u1, u2, u3⟩ := (hid_out hp34).1 hh
                                        exact ⟨fun h => ⟨fun _ => ⟨rfl, u1 h⟩, fun hn => absurd ⟨by omega, by omega, by omega⟩ hn⟩, fun h => ⟨fun _ => ⟨rfl, u2 h⟩, fun hn => absurd ⟨by omega, by omega, by omega⟩ hn⟩, fun h => ⟨fun _ => ⟨rfl, u3 h⟩, fun hn => absurd ⟨by omega, by omega, by omega⟩ hn⟩, fun h => absurd h (by omega), fun h => absurd h (by omega), fun h => absurd h (by omega), fun h => absurd h (by omega)⟩) d_P_alter_45
