/-! What the pool's own methods answer. -/
noncomputable def cif (p : Prop) (a b : Int) : Int := @ite Int p (Classical.propDecidable p) a b
theorem cif_t {p : Prop} {a b : Int} (h : p) : cif p a b = a := by unfold cif; exact if_pos h
theorem cif_f {p : Prop} {a b : Int} (h : ¬ p) : cif p a b = b := by unfold cif; exact if_neg h
def finP (σ : yM) (nk fl : Nat) (k i : Int) : Prop := (0 ≤ k ∧ k < (nk : Int)) ∧ (0 ≤ i ∧ i < (fl : Int)) ∧ σ (53 + 5 * k.toNat + 1) i.toNat = 1

theorem d_P_isKey_0 : decode b_P_isKey 0 = .ok (.iload_n 1, 1) := by decide +kernel
theorem d_P_isKey_1 : decode b_P_isKey 1 = .ok (.ifCond .lt 15, 3) := by decide +kernel
theorem d_P_isKey_4 : decode b_P_isKey 4 = .ok (.iload_n 1, 1) := by decide +kernel
theorem d_P_isKey_5 : decode b_P_isKey 5 = .ok (.aload_n 0, 1) := by decide +kernel
theorem d_P_isKey_6 : decode b_P_isKey 6 = .ok (.getfield 52, 3) := by decide +kernel
theorem d_P_isKey_9 : decode b_P_isKey 9 = .ok (.if_icmp .ge 7, 3) := by decide +kernel
theorem d_P_isKey_12 : decode b_P_isKey 12 = .ok (.iconst 1, 1) := by decide +kernel
theorem d_P_isKey_13 : decode b_P_isKey 13 = .ok (.goto 4, 3) := by decide +kernel
theorem d_P_isKey_16 : decode b_P_isKey 16 = .ok (.iconst 0, 1) := by decide +kernel
theorem d_P_isKey_17 : decode b_P_isKey 17 = .ok (.ireturn, 1) := by decide +kernel
theorem d_P_finds_0 : decode b_P_finds 0 = .ok (.aload_n 0, 1) := by decide +kernel
theorem d_P_finds_1 : decode b_P_finds 1 = .ok (.iload_n 1, 1) := by decide +kernel
theorem d_P_finds_2 : decode b_P_finds 2 = .ok (.invokevirtual 91, 3) := by decide +kernel
theorem d_P_finds_5 : decode b_P_finds 5 = .ok (.ifCond .eq 36, 3) := by decide +kernel
theorem d_P_finds_8 : decode b_P_finds 8 = .ok (.iload_n 2, 1) := by decide +kernel
theorem d_P_finds_9 : decode b_P_finds 9 = .ok (.ifCond .lt 32, 3) := by decide +kernel
theorem d_P_finds_12 : decode b_P_finds 12 = .ok (.iload_n 2, 1) := by decide +kernel
theorem d_P_finds_13 : decode b_P_finds 13 = .ok (.aload_n 0, 1) := by decide +kernel
theorem d_P_finds_14 : decode b_P_finds 14 = .ok (.getfield 21, 3) := by decide +kernel
theorem d_P_finds_17 : decode b_P_finds 17 = .ok (.getfield 64, 3) := by decide +kernel
theorem d_P_finds_20 : decode b_P_finds 20 = .ok (.if_icmp .ge 21, 3) := by decide +kernel
theorem d_P_finds_23 : decode b_P_finds 23 = .ok (.aload_n 0, 1) := by decide +kernel
theorem d_P_finds_24 : decode b_P_finds 24 = .ok (.getfield 47, 3) := by decide +kernel
theorem d_P_finds_27 : decode b_P_finds 27 = .ok (.iload_n 1, 1) := by decide +kernel
theorem d_P_finds_28 : decode b_P_finds 28 = .ok (.aaload, 1) := by decide +kernel
theorem d_P_finds_29 : decode b_P_finds 29 = .ok (.getfield 178, 3) := by decide +kernel
theorem d_P_finds_32 : decode b_P_finds 32 = .ok (.iload_n 2, 1) := by decide +kernel
theorem d_P_finds_33 : decode b_P_finds 33 = .ok (.baload, 1) := by decide +kernel
theorem d_P_finds_34 : decode b_P_finds 34 = .ok (.ifCond .eq 7, 3) := by decide +kernel
theorem d_P_finds_37 : decode b_P_finds 37 = .ok (.iconst 1, 1) := by decide +kernel
theorem d_P_finds_38 : decode b_P_finds 38 = .ok (.goto 4, 3) := by decide +kernel
theorem d_P_finds_41 : decode b_P_finds 41 = .ok (.iconst 0, 1) := by decide +kernel
theorem d_P_finds_42 : decode b_P_finds 42 = .ok (.ireturn, 1) := by decide +kernel
theorem d_P_blocks_0 : decode b_P_blocks 0 = .ok (.aload_n 0, 1) := by decide +kernel
theorem d_P_blocks_1 : decode b_P_blocks 1 = .ok (.getfield 34, 3) := by decide +kernel
theorem d_P_blocks_4 : decode b_P_blocks 4 = .ok (.getfield 147, 3) := by decide +kernel
theorem d_P_blocks_7 : decode b_P_blocks 7 = .ok (.ireturn, 1) := by decide +kernel
theorem d_P_leaves_0 : decode b_P_leaves 0 = .ok (.aload_n 0, 1) := by decide +kernel
theorem d_P_leaves_1 : decode b_P_leaves 1 = .ok (.getfield 21, 3) := by decide +kernel
theorem d_P_leaves_4 : decode b_P_leaves 4 = .ok (.getfield 64, 3) := by decide +kernel
theorem d_P_leaves_7 : decode b_P_leaves 7 = .ok (.ireturn, 1) := by decide +kernel
theorem d_P_node_0 : decode b_P_node 0 = .ok (.iload_n 1, 1) := by decide +kernel
theorem d_P_node_1 : decode b_P_node 1 = .ok (.ifCond .lt 20, 3) := by decide +kernel
theorem d_P_node_4 : decode b_P_node 4 = .ok (.iload_n 1, 1) := by decide +kernel
theorem d_P_node_5 : decode b_P_node 5 = .ok (.iconst 4, 1) := by decide +kernel
theorem d_P_node_6 : decode b_P_node 6 = .ok (.if_icmp .gt 15, 3) := by decide +kernel
theorem d_P_node_9 : decode b_P_node 9 = .ok (.iload_n 2, 1) := by decide +kernel
theorem d_P_node_10 : decode b_P_node 10 = .ok (.ifCond .lt 11, 3) := by decide +kernel
theorem d_P_node_13 : decode b_P_node 13 = .ok (.iload_n 2, 1) := by decide +kernel
theorem d_P_node_14 : decode b_P_node 14 = .ok (.bipush 16, 2) := by decide +kernel
theorem d_P_node_16 : decode b_P_node 16 = .ok (.iload_n 1, 1) := by decide +kernel
theorem d_P_node_17 : decode b_P_node 17 = .ok (.ishr, 1) := by decide +kernel
theorem d_P_node_18 : decode b_P_node 18 = .ok (.if_icmp .lt 5, 3) := by decide +kernel
theorem d_P_node_21 : decode b_P_node 21 = .ok (.iconst (-1), 1) := by decide +kernel
theorem d_P_node_22 : decode b_P_node 22 = .ok (.ireturn, 1) := by decide +kernel
theorem d_P_node_23 : decode b_P_node 23 = .ok (.aload_n 0, 1) := by decide +kernel
theorem d_P_node_24 : decode b_P_node 24 = .ok (.getfield 21, 3) := by decide +kernel
theorem d_P_node_27 : decode b_P_node 27 = .ok (.getfield 155, 3) := by decide +kernel
theorem d_P_node_30 : decode b_P_node 30 = .ok (.iload_n 1, 1) := by decide +kernel
theorem d_P_node_31 : decode b_P_node 31 = .ok (.iload_n 2, 1) := by decide +kernel
theorem d_P_node_32 : decode b_P_node 32 = .ok (.invokestatic 159, 3) := by decide +kernel
theorem d_P_node_35 : decode b_P_node 35 = .ok (.iaload, 1) := by decide +kernel
theorem d_P_node_36 : decode b_P_node 36 = .ok (.ireturn, 1) := by decide +kernel
theorem d_P_pool_0 : decode b_P_pool 0 = .ok (.aload_n 0, 1) := by decide +kernel
theorem d_P_pool_1 : decode b_P_pool 1 = .ok (.getfield 34, 3) := by decide +kernel
theorem d_P_pool_4 : decode b_P_pool 4 = .ok (.getfield 163, 3) := by decide +kernel
theorem d_P_pool_7 : decode b_P_pool 7 = .ok (.ireturn, 1) := by decide +kernel
theorem d_P_revealed_0 : decode b_P_revealed 0 = .ok (.aload_n 0, 1) := by decide +kernel
theorem d_P_revealed_1 : decode b_P_revealed 1 = .ok (.getfield 34, 3) := by decide +kernel
theorem d_P_revealed_4 : decode b_P_revealed 4 = .ok (.iload_n 1, 1) := by decide +kernel
theorem d_P_revealed_5 : decode b_P_revealed 5 = .ok (.invokevirtual 166, 3) := by decide +kernel
theorem d_P_revealed_8 : decode b_P_revealed 8 = .ok (.ireturn, 1) := by decide +kernel
theorem d_P_note_0 : decode b_P_note 0 = .ok (.aload_n 0, 1) := by decide +kernel
theorem d_P_note_1 : decode b_P_note 1 = .ok (.iload_n 1, 1) := by decide +kernel
theorem d_P_note_2 : decode b_P_note 2 = .ok (.iload_n 2, 1) := by decide +kernel
theorem d_P_note_3 : decode b_P_note 3 = .ok (.invokevirtual 74, 3) := by decide +kernel
theorem d_P_note_6 : decode b_P_note 6 = .ok (.ifCond .ne 5, 3) := by decide +kernel
theorem d_P_note_9 : decode b_P_note 9 = .ok (.iconst (-1), 1) := by decide +kernel
theorem d_P_note_10 : decode b_P_note 10 = .ok (.ireturn, 1) := by decide +kernel
theorem d_P_note_11 : decode b_P_note 11 = .ok (.iload_n 3, 1) := by decide +kernel
theorem d_P_note_12 : decode b_P_note 12 = .ok (.tableswitch 95 0 3 #[32, 44, 56, 83], 32) := by decide +kernel
theorem d_P_note_44 : decode b_P_note 44 = .ok (.aload_n 0, 1) := by decide +kernel
theorem d_P_note_45 : decode b_P_note 45 = .ok (.getfield 47, 3) := by decide +kernel
theorem d_P_note_48 : decode b_P_note 48 = .ok (.iload_n 1, 1) := by decide +kernel
theorem d_P_note_49 : decode b_P_note 49 = .ok (.aaload, 1) := by decide +kernel
theorem d_P_note_50 : decode b_P_note 50 = .ok (.getfield 169, 3) := by decide +kernel
theorem d_P_note_53 : decode b_P_note 53 = .ok (.iload_n 2, 1) := by decide +kernel
theorem d_P_note_54 : decode b_P_note 54 = .ok (.iaload, 1) := by decide +kernel
theorem d_P_note_55 : decode b_P_note 55 = .ok (.ireturn, 1) := by decide +kernel
theorem d_P_note_56 : decode b_P_note 56 = .ok (.aload_n 0, 1) := by decide +kernel
theorem d_P_note_57 : decode b_P_note 57 = .ok (.getfield 47, 3) := by decide +kernel
theorem d_P_note_60 : decode b_P_note 60 = .ok (.iload_n 1, 1) := by decide +kernel
theorem d_P_note_61 : decode b_P_note 61 = .ok (.aaload, 1) := by decide +kernel
theorem d_P_note_62 : decode b_P_note 62 = .ok (.getfield 172, 3) := by decide +kernel
theorem d_P_note_65 : decode b_P_note 65 = .ok (.iload_n 2, 1) := by decide +kernel
theorem d_P_note_66 : decode b_P_note 66 = .ok (.iaload, 1) := by decide +kernel
theorem d_P_note_67 : decode b_P_note 67 = .ok (.ireturn, 1) := by decide +kernel
theorem d_P_note_68 : decode b_P_note 68 = .ok (.aload_n 0, 1) := by decide +kernel
theorem d_P_note_69 : decode b_P_note 69 = .ok (.getfield 34, 3) := by decide +kernel
theorem d_P_note_72 : decode b_P_note 72 = .ok (.aload_n 0, 1) := by decide +kernel
theorem d_P_note_73 : decode b_P_note 73 = .ok (.getfield 47, 3) := by decide +kernel
theorem d_P_note_76 : decode b_P_note 76 = .ok (.iload_n 1, 1) := by decide +kernel
theorem d_P_note_77 : decode b_P_note 77 = .ok (.aaload, 1) := by decide +kernel
theorem d_P_note_78 : decode b_P_note 78 = .ok (.getfield 175, 3) := by decide +kernel
theorem d_P_note_81 : decode b_P_note 81 = .ok (.iload_n 2, 1) := by decide +kernel
theorem d_P_note_82 : decode b_P_note 82 = .ok (.iaload, 1) := by decide +kernel
theorem d_P_note_83 : decode b_P_note 83 = .ok (.invokevirtual 166, 3) := by decide +kernel
theorem d_P_note_86 : decode b_P_note 86 = .ok (.ifCond .eq 7, 3) := by decide +kernel
theorem d_P_note_89 : decode b_P_note 89 = .ok (.iconst 1, 1) := by decide +kernel
theorem d_P_note_90 : decode b_P_note 90 = .ok (.goto 4, 3) := by decide +kernel
theorem d_P_note_93 : decode b_P_note 93 = .ok (.iconst 0, 1) := by decide +kernel
theorem d_P_note_94 : decode b_P_note 94 = .ok (.ireturn, 1) := by decide +kernel
theorem d_P_note_95 : decode b_P_note 95 = .ok (.aload_n 0, 1) := by decide +kernel
theorem d_P_note_96 : decode b_P_note 96 = .ok (.getfield 47, 3) := by decide +kernel
theorem d_P_note_99 : decode b_P_note 99 = .ok (.iload_n 1, 1) := by decide +kernel
theorem d_P_note_100 : decode b_P_note 100 = .ok (.aaload, 1) := by decide +kernel
theorem d_P_note_101 : decode b_P_note 101 = .ok (.getfield 175, 3) := by decide +kernel
theorem d_P_note_104 : decode b_P_note 104 = .ok (.iload_n 2, 1) := by decide +kernel
theorem d_P_note_105 : decode b_P_note 105 = .ok (.iaload, 1) := by decide +kernel
theorem d_P_note_106 : decode b_P_note 106 = .ok (.ireturn, 1) := by decide +kernel
theorem d_P_note_107 : decode b_P_note 107 = .ok (.iconst (-1), 1) := by decide +kernel
theorem d_P_note_108 : decode b_P_note 108 = .ok (.ireturn, 1) := by decide +kernel
theorem d_P_total_0 : decode b_P_total 0 = .ok (.aload_n 0, 1) := by decide +kernel
theorem d_P_total_1 : decode b_P_total 1 = .ok (.iload_n 1, 1) := by decide +kernel
theorem d_P_total_2 : decode b_P_total 2 = .ok (.invokevirtual 91, 3) := by decide +kernel
theorem d_P_total_5 : decode b_P_total 5 = .ok (.ifCond .ne 5, 3) := by decide +kernel
theorem d_P_total_8 : decode b_P_total 8 = .ok (.iconst (-1), 1) := by decide +kernel
theorem d_P_total_9 : decode b_P_total 9 = .ok (.ireturn, 1) := by decide +kernel
theorem d_P_total_10 : decode b_P_total 10 = .ok (.aload_n 0, 1) := by decide +kernel
theorem d_P_total_11 : decode b_P_total 11 = .ok (.getfield 47, 3) := by decide +kernel
theorem d_P_total_14 : decode b_P_total 14 = .ok (.iload_n 1, 1) := by decide +kernel
theorem d_P_total_15 : decode b_P_total 15 = .ok (.aaload, 1) := by decide +kernel
theorem d_P_total_16 : decode b_P_total 16 = .ok (.astore_n 2, 1) := by decide +kernel
theorem d_P_total_17 : decode b_P_total 17 = .ok (.iconst 0, 1) := by decide +kernel
theorem d_P_total_18 : decode b_P_total 18 = .ok (.istore_n 3, 1) := by decide +kernel
theorem d_P_total_19 : decode b_P_total 19 = .ok (.iconst 0, 1) := by decide +kernel
theorem d_P_total_20 : decode b_P_total 20 = .ok (.istore 4, 2) := by decide +kernel
theorem d_P_total_22 : decode b_P_total 22 = .ok (.iload 4, 2) := by decide +kernel
theorem d_P_total_24 : decode b_P_total 24 = .ok (.aload_n 0, 1) := by decide +kernel
theorem d_P_total_25 : decode b_P_total 25 = .ok (.getfield 21, 3) := by decide +kernel
theorem d_P_total_28 : decode b_P_total 28 = .ok (.getfield 64, 3) := by decide +kernel
theorem d_P_total_31 : decode b_P_total 31 = .ok (.if_icmp .ge 46, 3) := by decide +kernel
theorem d_P_total_34 : decode b_P_total 34 = .ok (.aload_n 2, 1) := by decide +kernel
theorem d_P_total_35 : decode b_P_total 35 = .ok (.getfield 178, 3) := by decide +kernel
theorem d_P_total_38 : decode b_P_total 38 = .ok (.iload 4, 2) := by decide +kernel
theorem d_P_total_40 : decode b_P_total 40 = .ok (.baload, 1) := by decide +kernel
theorem d_P_total_41 : decode b_P_total 41 = .ok (.ifCond .eq 30, 3) := by decide +kernel
theorem d_P_total_44 : decode b_P_total 44 = .ok (.aload_n 0, 1) := by decide +kernel
theorem d_P_total_45 : decode b_P_total 45 = .ok (.getfield 34, 3) := by decide +kernel
theorem d_P_total_48 : decode b_P_total 48 = .ok (.aload_n 2, 1) := by decide +kernel
theorem d_P_total_49 : decode b_P_total 49 = .ok (.getfield 175, 3) := by decide +kernel
theorem d_P_total_52 : decode b_P_total 52 = .ok (.iload 4, 2) := by decide +kernel
theorem d_P_total_54 : decode b_P_total 54 = .ok (.iaload, 1) := by decide +kernel
theorem d_P_total_55 : decode b_P_total 55 = .ok (.invokevirtual 166, 3) := by decide +kernel
theorem d_P_total_58 : decode b_P_total 58 = .ok (.ifCond .ne 13, 3) := by decide +kernel
theorem d_P_total_61 : decode b_P_total 61 = .ok (.iload_n 3, 1) := by decide +kernel
theorem d_P_total_62 : decode b_P_total 62 = .ok (.aload_n 2, 1) := by decide +kernel
theorem d_P_total_63 : decode b_P_total 63 = .ok (.getfield 169, 3) := by decide +kernel
theorem d_P_total_66 : decode b_P_total 66 = .ok (.iload 4, 2) := by decide +kernel
theorem d_P_total_68 : decode b_P_total 68 = .ok (.iaload, 1) := by decide +kernel
theorem d_P_total_69 : decode b_P_total 69 = .ok (.iadd, 1) := by decide +kernel
theorem d_P_total_70 : decode b_P_total 70 = .ok (.istore_n 3, 1) := by decide +kernel
theorem d_P_total_71 : decode b_P_total 71 = .ok (.iinc 4 1, 3) := by decide +kernel
theorem d_P_total_74 : decode b_P_total 74 = .ok (.goto (-52), 3) := by decide +kernel
theorem d_P_total_77 : decode b_P_total 77 = .ok (.iload_n 3, 1) := by decide +kernel
theorem d_P_total_78 : decode b_P_total 78 = .ok (.ireturn, 1) := by decide +kernel
theorem d_P_address_0 : decode b_P_address 0 = .ok (.aload_n 0, 1) := by decide +kernel
theorem d_P_address_1 : decode b_P_address 1 = .ok (.iload_n 1, 1) := by decide +kernel
theorem d_P_address_2 : decode b_P_address 2 = .ok (.invokevirtual 91, 3) := by decide +kernel
theorem d_P_address_5 : decode b_P_address 5 = .ok (.ifCond .eq 12, 3) := by decide +kernel
theorem d_P_address_8 : decode b_P_address 8 = .ok (.iload_n 2, 1) := by decide +kernel
theorem d_P_address_9 : decode b_P_address 9 = .ok (.ifCond .lt 8, 3) := by decide +kernel
theorem d_P_address_12 : decode b_P_address 12 = .ok (.iload_n 2, 1) := by decide +kernel
theorem d_P_address_13 : decode b_P_address 13 = .ok (.iconst 1, 1) := by decide +kernel
theorem d_P_address_14 : decode b_P_address 14 = .ok (.if_icmp .le 5, 3) := by decide +kernel
theorem d_P_address_17 : decode b_P_address 17 = .ok (.iconst (-1), 1) := by decide +kernel
theorem d_P_address_18 : decode b_P_address 18 = .ok (.ireturn, 1) := by decide +kernel
theorem d_P_address_19 : decode b_P_address 19 = .ok (.aload_n 0, 1) := by decide +kernel
theorem d_P_address_20 : decode b_P_address 20 = .ok (.getfield 47, 3) := by decide +kernel
theorem d_P_address_23 : decode b_P_address 23 = .ok (.iload_n 1, 1) := by decide +kernel
theorem d_P_address_24 : decode b_P_address 24 = .ok (.aaload, 1) := by decide +kernel
theorem d_P_address_25 : decode b_P_address 25 = .ok (.getfield 104, 3) := by decide +kernel
theorem d_P_address_28 : decode b_P_address 28 = .ok (.iload_n 2, 1) := by decide +kernel
theorem d_P_address_29 : decode b_P_address 29 = .ok (.invokestatic 182, 3) := by decide +kernel
theorem d_P_address_32 : decode b_P_address 32 = .ok (.ireturn, 1) := by decide +kernel
theorem d_P_draft_0 : decode b_P_draft 0 = .ok (.iload_n 1, 1) := by decide +kernel
theorem d_P_draft_1 : decode b_P_draft 1 = .ok (.ifCond .lt 9, 3) := by decide +kernel
theorem d_P_draft_4 : decode b_P_draft 4 = .ok (.iload_n 1, 1) := by decide +kernel
theorem d_P_draft_5 : decode b_P_draft 5 = .ok (.bipush 25, 2) := by decide +kernel
theorem d_P_draft_7 : decode b_P_draft 7 = .ok (.if_icmp .le 7, 3) := by decide +kernel
theorem d_P_draft_10 : decode b_P_draft 10 = .ok (.sipush (-10000), 3) := by decide +kernel
theorem d_P_draft_13 : decode b_P_draft 13 = .ok (.ireturn, 1) := by decide +kernel
theorem d_P_draft_14 : decode b_P_draft 14 = .ok (.iload_n 1, 1) := by decide +kernel
theorem d_P_draft_15 : decode b_P_draft 15 = .ok (.iconst 4, 1) := by decide +kernel
theorem d_P_draft_16 : decode b_P_draft 16 = .ok (.if_icmp .ge 12, 3) := by decide +kernel
theorem d_P_draft_19 : decode b_P_draft 19 = .ok (.aload_n 0, 1) := by decide +kernel
theorem d_P_draft_20 : decode b_P_draft 20 = .ok (.getfield 41, 3) := by decide +kernel
theorem d_P_draft_23 : decode b_P_draft 23 = .ok (.iload_n 1, 1) := by decide +kernel
theorem d_P_draft_24 : decode b_P_draft 24 = .ok (.invokevirtual 187, 3) := by decide +kernel
theorem d_P_draft_27 : decode b_P_draft 27 = .ok (.ireturn, 1) := by decide +kernel
theorem d_P_draft_28 : decode b_P_draft 28 = .ok (.iload_n 1, 1) := by decide +kernel
theorem d_P_draft_29 : decode b_P_draft 29 = .ok (.bipush 8, 2) := by decide +kernel
theorem d_P_draft_31 : decode b_P_draft 31 = .ok (.if_icmp .ge 21, 3) := by decide +kernel
theorem d_P_draft_34 : decode b_P_draft 34 = .ok (.aload_n 0, 1) := by decide +kernel
theorem d_P_draft_35 : decode b_P_draft 35 = .ok (.getfield 41, 3) := by decide +kernel
theorem d_P_draft_38 : decode b_P_draft 38 = .ok (.iload_n 1, 1) := by decide +kernel
theorem d_P_draft_39 : decode b_P_draft 39 = .ok (.iconst 4, 1) := by decide +kernel
theorem d_P_draft_40 : decode b_P_draft 40 = .ok (.isub, 1) := by decide +kernel
theorem d_P_draft_41 : decode b_P_draft 41 = .ok (.iconst 2, 1) := by decide +kernel
theorem d_P_draft_42 : decode b_P_draft 42 = .ok (.idiv, 1) := by decide +kernel
theorem d_P_draft_43 : decode b_P_draft 43 = .ok (.iload_n 1, 1) := by decide +kernel
theorem d_P_draft_44 : decode b_P_draft 44 = .ok (.iconst 4, 1) := by decide +kernel
theorem d_P_draft_45 : decode b_P_draft 45 = .ok (.isub, 1) := by decide +kernel
theorem d_P_draft_46 : decode b_P_draft 46 = .ok (.iconst 2, 1) := by decide +kernel
theorem d_P_draft_47 : decode b_P_draft 47 = .ok (.irem, 1) := by decide +kernel
theorem d_P_draft_48 : decode b_P_draft 48 = .ok (.invokevirtual 191, 3) := by decide +kernel
theorem d_P_draft_51 : decode b_P_draft 51 = .ok (.ireturn, 1) := by decide +kernel
theorem d_P_draft_52 : decode b_P_draft 52 = .ok (.iload_n 1, 1) := by decide +kernel
theorem d_P_draft_53 : decode b_P_draft 53 = .ok (.bipush 22, 2) := by decide +kernel
theorem d_P_draft_55 : decode b_P_draft 55 = .ok (.if_icmp .ge 25, 3) := by decide +kernel
theorem d_P_draft_58 : decode b_P_draft 58 = .ok (.aload_n 0, 1) := by decide +kernel
theorem d_P_draft_59 : decode b_P_draft 59 = .ok (.getfield 41, 3) := by decide +kernel
theorem d_P_draft_62 : decode b_P_draft 62 = .ok (.iload_n 1, 1) := by decide +kernel
theorem d_P_draft_63 : decode b_P_draft 63 = .ok (.bipush 8, 2) := by decide +kernel
theorem d_P_draft_65 : decode b_P_draft 65 = .ok (.isub, 1) := by decide +kernel
theorem d_P_draft_66 : decode b_P_draft 66 = .ok (.bipush 7, 2) := by decide +kernel
theorem d_P_draft_68 : decode b_P_draft 68 = .ok (.idiv, 1) := by decide +kernel
theorem d_P_draft_69 : decode b_P_draft 69 = .ok (.iload_n 1, 1) := by decide +kernel
theorem d_P_draft_70 : decode b_P_draft 70 = .ok (.bipush 8, 2) := by decide +kernel
theorem d_P_draft_72 : decode b_P_draft 72 = .ok (.isub, 1) := by decide +kernel
theorem d_P_draft_73 : decode b_P_draft 73 = .ok (.bipush 7, 2) := by decide +kernel
theorem d_P_draft_75 : decode b_P_draft 75 = .ok (.irem, 1) := by decide +kernel
theorem d_P_draft_76 : decode b_P_draft 76 = .ok (.invokevirtual 194, 3) := by decide +kernel
theorem d_P_draft_79 : decode b_P_draft 79 = .ok (.ireturn, 1) := by decide +kernel
theorem d_P_draft_80 : decode b_P_draft 80 = .ok (.aload_n 0, 1) := by decide +kernel
theorem d_P_draft_81 : decode b_P_draft 81 = .ok (.getfield 41, 3) := by decide +kernel
theorem d_P_draft_84 : decode b_P_draft 84 = .ok (.iload_n 1, 1) := by decide +kernel
theorem d_P_draft_85 : decode b_P_draft 85 = .ok (.bipush 22, 2) := by decide +kernel
theorem d_P_draft_87 : decode b_P_draft 87 = .ok (.isub, 1) := by decide +kernel
theorem d_P_draft_88 : decode b_P_draft 88 = .ok (.iconst 2, 1) := by decide +kernel
theorem d_P_draft_89 : decode b_P_draft 89 = .ok (.idiv, 1) := by decide +kernel
theorem d_P_draft_90 : decode b_P_draft 90 = .ok (.iload_n 1, 1) := by decide +kernel
theorem d_P_draft_91 : decode b_P_draft 91 = .ok (.bipush 22, 2) := by decide +kernel
theorem d_P_draft_93 : decode b_P_draft 93 = .ok (.isub, 1) := by decide +kernel
theorem d_P_draft_94 : decode b_P_draft 94 = .ok (.iconst 2, 1) := by decide +kernel
theorem d_P_draft_95 : decode b_P_draft 95 = .ok (.irem, 1) := by decide +kernel
theorem d_P_draft_96 : decode b_P_draft 96 = .ok (.invokevirtual 197, 3) := by decide +kernel
theorem d_P_draft_99 : decode b_P_draft 99 = .ok (.ireturn, 1) := by decide +kernel
theorem d_P_clear_0 : decode b_P_clear 0 = .ok (.aload_n 0, 1) := by decide +kernel
theorem d_P_clear_1 : decode b_P_clear 1 = .ok (.getfield 41, 3) := by decide +kernel
theorem d_P_clear_4 : decode b_P_clear 4 = .ok (.invokevirtual 71, 3) := by decide +kernel
theorem d_P_clear_7 : decode b_P_clear 7 = .ok (.return_, 1) := by decide +kernel
theorem d_P_balance_0 : decode b_P_balance 0 = .ok (.iload_n 1, 1) := by decide +kernel
theorem d_P_balance_1 : decode b_P_balance 1 = .ok (.sipush (-9999), 3) := by decide +kernel
theorem d_P_balance_4 : decode b_P_balance 4 = .ok (.if_icmp .lt 10, 3) := by decide +kernel
theorem d_P_balance_7 : decode b_P_balance 7 = .ok (.iload_n 1, 1) := by decide +kernel
theorem d_P_balance_8 : decode b_P_balance 8 = .ok (.sipush 9999, 3) := by decide +kernel
theorem d_P_balance_11 : decode b_P_balance 11 = .ok (.if_icmp .le 5, 3) := by decide +kernel
theorem d_P_balance_14 : decode b_P_balance 14 = .ok (.iconst 0, 1) := by decide +kernel
theorem d_P_balance_15 : decode b_P_balance 15 = .ok (.ireturn, 1) := by decide +kernel
theorem d_P_balance_16 : decode b_P_balance 16 = .ok (.aload_n 0, 1) := by decide +kernel
theorem d_P_balance_17 : decode b_P_balance 17 = .ok (.getfield 41, 3) := by decide +kernel
theorem d_P_balance_20 : decode b_P_balance 20 = .ok (.iload_n 1, 1) := by decide +kernel
theorem d_P_balance_21 : decode b_P_balance 21 = .ok (.putfield 116, 3) := by decide +kernel
theorem d_P_balance_24 : decode b_P_balance 24 = .ok (.iconst 1, 1) := by decide +kernel
theorem d_P_balance_25 : decode b_P_balance 25 = .ok (.ireturn, 1) := by decide +kernel

set_option maxHeartbeats 4000000 in
set_option maxRecDepth 100000 in
theorem c_P_isKey (l : Launch) (G : yG) (z : Nat) (σ : yM) (nk : Nat) (hnk : nk ≤ 4) (hk0 : σ 0 5 = (nk : Int)) (k : Int) (hk9 : jr k) : Met l y_P_isKey (Cond.code y_P_isKey b_P_isKey 2 (some .boolean) :: yT) ({ frames := 0, cells := 0, slots := 0, locals := 0 } : Room) (yP ycl G yLP 0 73 z σ (yK G) [.ref (z + 0), .int (J (k))]) (yQi (if 0 ≤ k ∧ k < (nk : Int) then 1 else 0)) 0 0 yN := by
  refine y_met (by decide +kernel) (Nat.le_of_ble_eq_true rfl) ?_
  intro p e s m below meth c ls hx hb hr hml hlocks hown hname hts hv hl
  have hA : ∀ w ∈ yT, w.before _ s = true := fun w h => hts w (List.mem_cons_of_mem _ h)
  have hl : lv_has ls 2 [(0, .ref (z + 0)), (1, .int (J (k)))] := hl
  obtain ⟨hW, hK⟩ := hv
  have hS : va_S yN s.heap s.heap [] := va_S.rf
  refine lv_iload_n hx hb d_P_isKey_0 rfl (lv_at hl 1 rfl) ?_
  refine y_if_lt (tgt := 16) hx hb d_P_isKey_1 (by decide) ⟨by omega, by omega⟩ (fun hc1 => ?_) (fun hc1 => ?_)
  · skip
    refine lv_iconst (v := J (0)) hx hb d_P_isKey_16 rfl ?_
    exact y_retz hx hb hr hlocks hS (Or.inl rfl) (if_neg (by omega)).symm d_P_isKey_17
  · skip
    refine lv_iload_n hx hb d_P_isKey_4 rfl (lv_at hl 1 rfl) ?_
    refine lv_aload_n hx hb d_P_isKey_5 rfl (lv_at hl 0 rfl) ?_
    refine y_geti hx hb hA in_P hown hK.1 hW 0 (by omega) lay_0 rfl 5 (by decide) (hA _ k_fl_P_52) rfl d_P_isKey_6 ?_
    rw [hk0]
    refine y_icmp_ge (tgt := 16) hx hb d_P_isKey_9 (by decide) ⟨by omega, by omega⟩ ⟨by omega, by omega⟩ (fun hc2 => ?_) (fun hc2 => ?_)
    · skip
      refine lv_iconst (v := J (0)) hx hb d_P_isKey_16 rfl ?_
      exact y_retz hx hb hr hlocks hS (Or.inl rfl) (if_neg (by omega)).symm d_P_isKey_17
    · skip
      refine lv_iconst (v := J (1)) hx hb d_P_isKey_12 rfl ?_
      refine lv_goto (tgt := 17) hx hb d_P_isKey_13 (by decide) ?_
      exact y_retz hx hb hr hlocks hS (Or.inr rfl) (if_pos (by omega)).symm d_P_isKey_17

set_option maxHeartbeats 4000000 in
set_option maxRecDepth 100000 in
theorem c_P_finds (l : Launch) (G : yG) (z : Nat) (σ : yM) (nk : Nat) (hnk : nk ≤ 4) (hk0 : σ 0 5 = (nk : Int)) (fl : Nat) (hflr : fl ≤ 16) (hfl : σ 12 5 = (fl : Int)) (hfnd : ∀ k, k < nk → ∀ i, i < fl → σ (53 + 5 * k + 1) i = 0 ∨ σ (53 + 5 * k + 1) i = 1) (k i : Int) (hk9 : jr k) (hi9 : jr i) : Met l y_P_finds (Cond.code y_P_finds b_P_finds 3 (some .boolean) :: yT) ({ frames := 1, cells := 0, slots := 0, locals := 21 } : Room) (yP ycl G yLP 0 73 z σ (yK G) [.ref (z + 0), .int (J (k)), .int (J (i))]) (yQi (b01 (finP σ nk fl k i))) 0 0 yN := by
  refine y_met (by decide +kernel) (Nat.le_of_ble_eq_true rfl) ?_
  intro p e s m below meth c ls hx hb hr hml hlocks hown hname hts hv hl
  have hA : ∀ w ∈ yT, w.before _ s = true := fun w h => hts w (List.mem_cons_of_mem _ h)
  have hl : lv_has ls 3 [(0, .ref (z + 0)), (1, .int (J (k))), (2, .int (J (i)))] := hl
  obtain ⟨hW, hK⟩ := hv
  have hS : va_S yN s.heap s.heap [] := va_S.rf
  refine lv_aload_n hx hb d_P_finds_0 rfl (lv_at hl 0 rfl) ?_
  refine lv_iload_n hx hb d_P_finds_1 rfl (lv_at hl 1 rfl) ?_
  refine y_ci (y_runV (As := [.int (J (k))]) (rest := []) ⟨hx, hb, hml, hown, hts⟩ (c_P_isKey l G z σ nk hnk hk0 (k) ⟨by omega, by omega⟩) 1 k_co_P_isKey k_ml_P_91 k_im_P_isKey k_se_P_isKey k_in_P rfl rfl (by decide +kernel) ⟨Nat.le_of_ble_eq_true rfl, Nat.le_of_ble_eq_true rfl⟩ (yPv (yK_bl G) (yK_mv G) hK hK.1 hW (by omega) lay_0 rfl (by omega) (by omega)) rfl hl.1 rfl (Nat.le_of_ble_eq_true rfl) d_P_finds_2 ⟨Nat.zero_le _, Nat.zero_le _⟩) hS hW (fun H locs hW hS => ?_)
  by_cases hq2 : 0 ≤ k ∧ k < (nk : Int)
  · skip
    rw [show (if 0 ≤ k ∧ k < (nk : Int) then (1 : Int) else 0) = 1 from if_pos hq2]
    refine y_if_eq (tgt := 41) hx hb d_P_finds_5 (by decide) ⟨by omega, by omega⟩ (fun hc1 => absurd hc1 (by decide)) (fun hc1 => ?_)
    refine lv_iload_n hx hb d_P_finds_8 rfl (lv_at hl 2 rfl) ?_
    refine y_if_lt (tgt := 41) hx hb d_P_finds_9 (by decide) ⟨by omega, by omega⟩ (fun hc2 => ?_) (fun hc2 => ?_)
    · skip
      refine lv_iconst (v := J (0)) hx hb d_P_finds_41 rfl ?_
      exact y_retz hx hb hr hlocks hS (Or.inl rfl) (b01_f (fun hf => by obtain ⟨g1, g2, g3⟩ := hf; first | omega | (rw [e_kn, e_jn, Int.toNat_natCast, Int.toNat_natCast] at g3; omega))).symm d_P_finds_42
    · skip
      refine lv_iload_n hx hb d_P_finds_12 rfl (lv_at hl 2 rfl) ?_
      refine lv_aload_n hx hb d_P_finds_13 rfl (lv_at hl 0 rfl) ?_
      refine y_getr hx hb hA in_P hown hK.1 hW 0 (by omega) lay_0 rfl 1 (by decide) (hA _ k_fl_P_21) rfl d_P_finds_14 ?_
      refine y_geti hx hb hA in_Tree hown hK.1 hW 12 (by omega) lay_12 rfl 5 (by decide) (hA _ k_fl_P_64) rfl d_P_finds_17 ?_
      rw [hfl]
      refine y_icmp_ge (tgt := 41) hx hb d_P_finds_20 (by decide) ⟨by omega, by omega⟩ ⟨by omega, by omega⟩ (fun hc3 => ?_) (fun hc3 => ?_)
      · skip
        refine lv_iconst (v := J (0)) hx hb d_P_finds_41 rfl ?_
        exact y_retz hx hb hr hlocks hS (Or.inl rfl) (b01_f (fun hf => by obtain ⟨g1, g2, g3⟩ := hf; first | omega | (rw [e_kn, e_jn, Int.toNat_natCast, Int.toNat_natCast] at g3; omega))).symm d_P_finds_42
      · skip
        refine lv_aload_n hx hb d_P_finds_23 rfl (lv_at hl 0 rfl) ?_
        refine y_getr hx hb hA in_P hown hK.1 hW 0 (by omega) lay_0 rfl 4 (by decide) (hA _ k_fl_P_47) rfl d_P_finds_24 ?_
        refine lv_iload_n hx hb d_P_finds_27 rfl (lv_at hl 1 rfl) ?_
        obtain ⟨kn, e_kn⟩ : ∃ q : Nat, k = (q : Int) := ⟨(k).toNat, by omega⟩
        refine y_aald hx hb hK.1 hW 52 (by omega) lay_52 rfl (by decide) kn (by omega) (by omega) d_P_finds_28 ?_
        refine y_getr hx hb hA in_Key hown hK.1 hW (53 + 5 * kn) (by omega) (lay_Key (n := kn) (by omega)) rfl 2 (by decide) (hA _ k_fl_P_178) rfl d_P_finds_29 ?_
        refine lv_iload_n hx hb d_P_finds_32 rfl (lv_at hl 2 rfl) ?_
        obtain ⟨jn, e_jn⟩ : ∃ q : Nat, i = (q : Int) := ⟨(i).toNat, by omega⟩
        have hfv := hfnd kn (by omega) jn (by omega)
        refine y_zald hx hb hK.1 hW (53 + 5 * kn + 1) (by omega) (lay_Kfnd (n := kn) (by omega)) rfl (by decide) jn (by omega) (by omega) d_P_finds_33 ?_
        refine y_if_eq (tgt := 41) hx hb d_P_finds_34 (by decide) ⟨by omega, by omega⟩ (fun hc4 => ?_) (fun hc4 => ?_)
        · skip
          refine lv_iconst (v := J (0)) hx hb d_P_finds_41 rfl ?_
          exact y_retz hx hb hr hlocks hS (Or.inl rfl) (b01_f (fun hf => by obtain ⟨g1, g2, g3⟩ := hf; first | omega | (rw [e_kn, e_jn, Int.toNat_natCast, Int.toNat_natCast] at g3; omega))).symm d_P_finds_42
        · skip
          refine lv_iconst (v := J (1)) hx hb d_P_finds_37 rfl ?_
          refine lv_goto (tgt := 42) hx hb d_P_finds_38 (by decide) ?_
          exact y_retz hx hb hr hlocks hS (Or.inr rfl) (b01_t ⟨by omega, by omega, by rw [e_kn, e_jn, Int.toNat_natCast, Int.toNat_natCast]; omega⟩).symm d_P_finds_42
  · skip
    rw [show (if 0 ≤ k ∧ k < (nk : Int) then (1 : Int) else 0) = 0 from if_neg hq2]
    refine y_if_eq (tgt := 41) hx hb d_P_finds_5 (by decide) ⟨by omega, by omega⟩ (fun hc5 => ?_) (fun hc5 => absurd hc5 (by decide))
    refine lv_iconst (v := J (0)) hx hb d_P_finds_41 rfl ?_
    exact y_retz hx hb hr hlocks hS (Or.inl rfl) (b01_f (fun hf => by obtain ⟨g1, g2, g3⟩ := hf; first | omega | (rw [e_kn, e_jn, Int.toNat_natCast, Int.toNat_natCast] at g3; omega))).symm d_P_finds_42

set_option maxHeartbeats 4000000 in
set_option maxRecDepth 100000 in
theorem c_P_blocks (l : Launch) (G : yG) (z : Nat) (σ : yM) : Met l y_P_blocks (Cond.code y_P_blocks b_P_blocks 1 (some .int) :: yT) ({ frames := 0, cells := 0, slots := 0, locals := 0 } : Room) (yP ycl G yLP 0 73 z σ (yK G) [.ref (z + 0)]) (yQi (σ 17 2)) 0 0 yN := by
  refine y_met (by decide +kernel) (Nat.le_of_ble_eq_true rfl) ?_
  intro p e s m below meth c ls hx hb hr hml hlocks hown hname hts hv hl
  have hA : ∀ w ∈ yT, w.before _ s = true := fun w h => hts w (List.mem_cons_of_mem _ h)
  have hl : lv_has ls 1 [(0, .ref (z + 0))] := hl
  obtain ⟨hW, hK⟩ := hv
  have hS : va_S yN s.heap s.heap [] := va_S.rf
  refine lv_aload_n hx hb d_P_blocks_0 rfl (lv_at hl 0 rfl) ?_
  refine y_getr hx hb hA in_P hown hK.1 hW 0 (by omega) lay_0 rfl 2 (by decide) (hA _ k_fl_P_34) rfl d_P_blocks_1 ?_
  refine y_geti hx hb hA in_Chain hown hK.1 hW 17 (by omega) lay_17 rfl 2 (by decide) (hA _ k_fl_P_147) rfl d_P_blocks_4 ?_
  exact y_reti hx hb hr hlocks hS rfl d_P_blocks_7

set_option maxHeartbeats 4000000 in
set_option maxRecDepth 100000 in
theorem c_P_leaves (l : Launch) (G : yG) (z : Nat) (σ : yM) : Met l y_P_leaves (Cond.code y_P_leaves b_P_leaves 1 (some .int) :: yT) ({ frames := 0, cells := 0, slots := 0, locals := 0 } : Room) (yP ycl G yLP 0 73 z σ (yK G) [.ref (z + 0)]) (yQi (σ 12 5)) 0 0 yN := by
  refine y_met (by decide +kernel) (Nat.le_of_ble_eq_true rfl) ?_
  intro p e s m below meth c ls hx hb hr hml hlocks hown hname hts hv hl
  have hA : ∀ w ∈ yT, w.before _ s = true := fun w h => hts w (List.mem_cons_of_mem _ h)
  have hl : lv_has ls 1 [(0, .ref (z + 0))] := hl
  obtain ⟨hW, hK⟩ := hv
  have hS : va_S yN s.heap s.heap [] := va_S.rf
  refine lv_aload_n hx hb d_P_leaves_0 rfl (lv_at hl 0 rfl) ?_
  refine y_getr hx hb hA in_P hown hK.1 hW 0 (by omega) lay_0 rfl 1 (by decide) (hA _ k_fl_P_21) rfl d_P_leaves_1 ?_
  refine y_geti hx hb hA in_Tree hown hK.1 hW 12 (by omega) lay_12 rfl 5 (by decide) (hA _ k_fl_P_64) rfl d_P_leaves_4 ?_
  exact y_reti hx hb hr hlocks hS rfl d_P_leaves_7

set_option maxHeartbeats 4000000 in
set_option maxRecDepth 100000 in
theorem c_P_pool (l : Launch) (G : yG) (z : Nat) (σ : yM) : Met l y_P_pool (Cond.code y_P_pool b_P_pool 1 (some .int) :: yT) ({ frames := 0, cells := 0, slots := 0, locals := 0 } : Room) (yP ycl G yLP 0 73 z σ (yK G) [.ref (z + 0)]) (yQi (σ 17 3)) 0 0 yN := by
  refine y_met (by decide +kernel) (Nat.le_of_ble_eq_true rfl) ?_
  intro p e s m below meth c ls hx hb hr hml hlocks hown hname hts hv hl
  have hA : ∀ w ∈ yT, w.before _ s = true := fun w h => hts w (List.mem_cons_of_mem _ h)
  have hl : lv_has ls 1 [(0, .ref (z + 0))] := hl
  obtain ⟨hW, hK⟩ := hv
  have hS : va_S yN s.heap s.heap [] := va_S.rf
  refine lv_aload_n hx hb d_P_pool_0 rfl (lv_at hl 0 rfl) ?_
  refine y_getr hx hb hA in_P hown hK.1 hW 0 (by omega) lay_0 rfl 2 (by decide) (hA _ k_fl_P_34) rfl d_P_pool_1 ?_
  refine y_geti hx hb hA in_Chain hown hK.1 hW 17 (by omega) lay_17 rfl 3 (by decide) (hA _ k_fl_P_163) rfl d_P_pool_4 ?_
  exact y_reti hx hb hr hlocks hS rfl d_P_pool_7

set_option maxHeartbeats 4000000 in
set_option maxRecDepth 100000 in
theorem c_P_node (l : Launch) (G : yG) (z : Nat) (σ : yM) (a b : Int) (ha9 : jr a) (hb9 : jr b) : Met l y_P_node (Cond.code y_P_node b_P_node 3 (some .int) :: yT) ({ frames := 1, cells := 0, slots := 0, locals := 21 } : Room) (yP ycl G yLP 0 73 z σ (yK G) [.ref (z + 0), .int (J (a)), .int (J (b))]) (yQi (if 0 ≤ a ∧ a ≤ 4 ∧ 0 ≤ b ∧ b < ((16 / 2 ^ a.toNat : Nat) : Int) then σ 13 (tpl a.toNat b.toNat) else -1)) 0 0 yN := by
  refine y_met (by decide +kernel) (Nat.le_of_ble_eq_true rfl) ?_
  intro p e s m below meth c ls hx hb hr hml hlocks hown hname hts hv hl
  have hA : ∀ w ∈ yT, w.before _ s = true := fun w h => hts w (List.mem_cons_of_mem _ h)
  have hl : lv_has ls 3 [(0, .ref (z + 0)), (1, .int (J (a))), (2, .int (J (b)))] := hl
  obtain ⟨hW, hK⟩ := hv
  have hS : va_S yN s.heap s.heap [] := va_S.rf
  refine lv_iload_n hx hb d_P_node_0 rfl (lv_at hl 1 rfl) ?_
  refine y_if_lt (tgt := 21) hx hb d_P_node_1 (by decide) ⟨by omega, by omega⟩ (fun hc1 => ?_) (fun hc1 => ?_)
  · skip
    refine lv_iconst (v := J (-1)) hx hb d_P_node_21 rfl ?_
    exact y_reti hx hb hr hlocks hS (by first | exact (if_neg (by omega)).symm | exact (if_neg (fun hh => by rw [e_an, Int.toNat_natCast] at hh; omega)).symm) d_P_node_22
  · skip
    refine lv_iload_n hx hb d_P_node_4 rfl (lv_at hl 1 rfl) ?_
    refine lv_iconst (v := J (4)) hx hb d_P_node_5 rfl ?_
    refine y_icmp_gt (tgt := 21) hx hb d_P_node_6 (by decide) ⟨by omega, by omega⟩ ⟨by omega, by omega⟩ (fun hc2 => ?_) (fun hc2 => ?_)
    · skip
      refine lv_iconst (v := J (-1)) hx hb d_P_node_21 rfl ?_
      exact y_reti hx hb hr hlocks hS (by first | exact (if_neg (by omega)).symm | exact (if_neg (fun hh => by rw [e_an, Int.toNat_natCast] at hh; omega)).symm) d_P_node_22
    · skip
      refine lv_iload_n hx hb d_P_node_9 rfl (lv_at hl 2 rfl) ?_
      refine y_if_lt (tgt := 21) hx hb d_P_node_10 (by decide) ⟨by omega, by omega⟩ (fun hc3 => ?_) (fun hc3 => ?_)
      · skip
        refine lv_iconst (v := J (-1)) hx hb d_P_node_21 rfl ?_
        exact y_reti hx hb hr hlocks hS (by first | exact (if_neg (by omega)).symm | exact (if_neg (fun hh => by rw [e_an, Int.toNat_natCast] at hh; omega)).symm) d_P_node_22
      · skip
        obtain ⟨an, e_an⟩ : ∃ q : Nat, a = (q : Int) := ⟨(a).toNat, by omega⟩
        have hdv : (16 : Int) / 2 ^ an = ((16 / 2 ^ an : Nat) : Int) := by rw [Int.natCast_ediv, Int.natCast_pow]; rfl
        have hdl : 16 / 2 ^ an ≤ 16 := Nat.div_le_self _ _
        refine lv_iload_n hx hb d_P_node_13 rfl (lv_at hl 2 rfl) ?_
        refine lv_bipush (v := J (16)) hx hb d_P_node_14 (by decide) ?_
        refine lv_iload_n hx hb d_P_node_16 rfl (lv_at hl 1 rfl) ?_
        refine y_ishr hx hb d_P_node_17 an (by omega) (by omega) (by omega) (by omega) ?_
        refine y_icmp_lt (tgt := 23) hx hb d_P_node_18 (by decide) ⟨by omega, by omega⟩ ⟨by rw [hdv]; exact Int.le_trans (by decide) (Int.natCast_nonneg _), by rw [hdv]; omega⟩ (fun hc4 => ?_) (fun hc4 => ?_)
        · skip
          rw [hdv] at hc4
          obtain ⟨bn, e_bn⟩ : ∃ q : Nat, b = (q : Int) := ⟨(b).toNat, by omega⟩
          refine lv_aload_n hx hb d_P_node_23 rfl (lv_at hl 0 rfl) ?_
          refine y_getr hx hb hA in_P hown hK.1 hW 0 (by omega) lay_0 rfl 1 (by decide) (hA _ k_fl_P_21) rfl d_P_node_24 ?_
          refine y_getr hx hb hA in_Tree hown hK.1 hW 12 (by omega) lay_12 rfl 1 (by decide) (hA _ k_fl_P_155) rfl d_P_node_27 ?_
          refine lv_iload_n hx hb d_P_node_30 rfl (lv_at hl 1 rfl) ?_
          refine lv_iload_n hx hb d_P_node_31 rfl (lv_at hl 2 rfl) ?_
          refine y_ci (y_runS (As := [.int (J (a)), .int (J (b))]) (rest := [.ref (z + 13)]) ⟨hx, hb, hml, hown, hts⟩ (c_Tree_place l G an (by omega) (a) (b) (by omega)) 2 k_co_Tree_place k_ml_P_159 k_st_Tree_place k_in_Tree rfl rfl (by decide +kernel) ⟨Nat.le_of_ble_eq_true rfl, Nat.le_of_ble_eq_true rfl⟩ (yPs0 (yK_bl G) (yK_mv G) hK) rfl hl.1 rfl (Nat.le_of_ble_eq_true rfl) d_P_node_32 ⟨Nat.zero_le _, Nat.zero_le _⟩) hS hW (fun H locs hW hS => ?_)
          refine y_iald hx hb hK.1 hW 13 (by omega) lay_13 rfl (by decide) (tpl an bn) (by rw [tpl_int (by omega)]; omega) (tpl_lt (by omega) (by omega)) d_P_node_35 ?_
          exact y_reti hx hb hr hlocks hS (by rw [if_pos (by rw [e_an, Int.toNat_natCast]; omega), e_an, e_bn, Int.toNat_natCast, Int.toNat_natCast]) d_P_node_36
        · skip
          rw [hdv] at hc4
          refine lv_iconst (v := J (-1)) hx hb d_P_node_21 rfl ?_
          exact y_reti hx hb hr hlocks hS (by first | exact (if_neg (by omega)).symm | exact (if_neg (fun hh => by rw [e_an, Int.toNat_natCast] at hh; omega)).symm) d_P_node_22

set_option maxHeartbeats 4000000 in
set_option maxRecDepth 100000 in
theorem c_P_revealed (l : Launch) (G : yG) (z : Nat) (σ : yM) (nb : Nat) (hnbr : nb ≤ 12) (hnb : σ 17 2 = (nb : Int)) (sc : Nat → Nat) (hsc : ∀ i, i < nb → sc i ≤ 2 ∧ σ (19 + 2 * i) 1 = (sc i : Int)) (hnr : ∀ i, i < nb → ∀ j, j < sc i → jr (σ (19 + 2 * i + 1) j)) (x : Int) (hx9 : jr x) : Met l y_P_revealed (Cond.code y_P_revealed b_P_revealed 2 (some .boolean) :: yT) ({ frames := 1, cells := 0, slots := 0, locals := 23 } : Room) (yP ycl G yLP 0 73 z σ (yK G) [.ref (z + 0), .int (J (x))]) (yQi (b01 (revB σ sc x nb))) 0 0 yN := by
  refine y_met (by decide +kernel) (Nat.le_of_ble_eq_true rfl) ?_
  intro p e s m below meth c ls hx hb hr hml hlocks hown hname hts hv hl
  have hA : ∀ w ∈ yT, w.before _ s = true := fun w h => hts w (List.mem_cons_of_mem _ h)
  have hl : lv_has ls 2 [(0, .ref (z + 0)), (1, .int (J (x)))] := hl
  obtain ⟨hW, hK⟩ := hv
  have hS : va_S yN s.heap s.heap [] := va_S.rf
  refine lv_aload_n hx hb d_P_revealed_0 rfl (lv_at hl 0 rfl) ?_
  refine y_getr hx hb hA in_P hown hK.1 hW 0 (by omega) lay_0 rfl 2 (by decide) (hA _ k_fl_P_34) rfl d_P_revealed_1 ?_
  refine lv_iload_n hx hb d_P_revealed_4 rfl (lv_at hl 1 rfl) ?_
  refine y_ci (y_runV (As := [.int (J (x))]) (rest := []) ⟨hx, hb, hml, hown, hts⟩ (c_Chain_reveals l G z σ nb hnbr hnb sc hsc (x) hx9 hnr) 1 k_co_Chain_reveals k_ml_P_166 k_im_Chain_reveals k_se_Chain_reveals k_in_Chain rfl rfl (by decide +kernel) ⟨Nat.le_of_ble_eq_true rfl, Nat.le_of_ble_eq_true rfl⟩ (yPv (yK_bl G) (yK_mv G) hK hK.1 hW (by omega) lay_17 rfl (by omega) (by omega)) rfl hl.1 rfl (Nat.le_of_ble_eq_true rfl) d_P_revealed_5 ⟨Nat.zero_le _, Nat.zero_le _⟩) hS hW (fun H locs hW hS => ?_)
  exact y_retz hx hb hr hlocks hS (b01_01 _) rfl d_P_revealed_8

set_option maxHeartbeats 4000000 in
set_option maxRecDepth 100000 in
theorem c_P_note (l : Launch) (G : yG) (z : Nat) (σ : yM) (nk : Nat) (hnk : nk ≤ 4) (hk0 : σ 0 5 = (nk : Int)) (fl : Nat) (hflr : fl ≤ 16) (hfl : σ 12 5 = (fl : Int)) (hfnd : ∀ k, k < nk → ∀ i, i < fl → σ (53 + 5 * k + 1) i = 0 ∨ σ (53 + 5 * k + 1) i = 1) (nb : Nat) (hnbr : nb ≤ 12) (hnb : σ 17 2 = (nb : Int)) (sc : Nat → Nat) (hsc : ∀ i, i < nb → sc i ≤ 2 ∧ σ (19 + 2 * i) 1 = (sc i : Int)) (hnr : ∀ i, i < nb → ∀ j, j < sc i → jr (σ (19 + 2 * i + 1) j)) (hnul : ∀ k, k < nk → ∀ i, i < fl → jr (σ (53 + 5 * k + 4) i)) (k i c9 : Int) (hk9 : jr k) (hi9 : jr i) (hc9 : jr c9) : Met l y_P_note (Cond.code y_P_note b_P_note 4 (some .int) :: yT) ({ frames := 2, cells := 0, slots := 0, locals := 43 } : Room) (yP ycl G yLP 0 73 z σ (yK G) [.ref (z + 0), .int (J (k)), .int (J (i)), .int (J (c9))]) (yQi (cif (finP σ nk fl k i) (if c9 = 0 then σ (53 + 5 * k.toNat + 2) i.toNat else if c9 = 1 then σ (53 + 5 * k.toNat + 3) i.toNat else if c9 = 2 then b01 (revB σ sc (σ (53 + 5 * k.toNat + 4) i.toNat) nb) else if c9 = 3 then σ (53 + 5 * k.toNat + 4) i.toNat else -1) (-1))) 0 0 yN := by
  refine y_met (by decide +kernel) (Nat.le_of_ble_eq_true rfl) ?_
  intro p e s m below meth c ls hx hb hr hml hlocks hown hname hts hv hl
  have hA : ∀ w ∈ yT, w.before _ s = true := fun w h => hts w (List.mem_cons_of_mem _ h)
  have hl : lv_has ls 4 [(0, .ref (z + 0)), (1, .int (J (k))), (2, .int (J (i))), (3, .int (J (c9)))] := hl
  obtain ⟨hW, hK⟩ := hv
  have hS : va_S yN s.heap s.heap [] := va_S.rf
  refine lv_aload_n hx hb d_P_note_0 rfl (lv_at hl 0 rfl) ?_
  refine lv_iload_n hx hb d_P_note_1 rfl (lv_at hl 1 rfl) ?_
  refine lv_iload_n hx hb d_P_note_2 rfl (lv_at hl 2 rfl) ?_
  refine y_ci (y_runV (As := [.int (J (k)), .int (J (i))]) (rest := []) ⟨hx, hb, hml, hown, hts⟩ (c_P_finds l G z σ nk hnk hk0 fl hflr hfl hfnd (k) (i) hk9 hi9) 2 k_co_P_finds k_ml_P_74 k_im_P_finds k_se_P_finds k_in_P rfl rfl (by decide +kernel) ⟨Nat.le_of_ble_eq_true rfl, Nat.le_of_ble_eq_true rfl⟩ (yPv (yK_bl G) (yK_mv G) hK hK.1 hW (by omega) lay_0 rfl (by omega) (by omega)) rfl hl.1 rfl (Nat.le_of_ble_eq_true rfl) d_P_note_3 ⟨Nat.zero_le _, Nat.zero_le _⟩) hS hW (fun H locs hW hS => ?_)
  by_cases hf9 : finP σ nk fl k i
  · skip
    rw [b01_t hf9]
    refine y_if_ne (tgt := 11) hx hb d_P_note_6 (by decide) ⟨by omega, by omega⟩ (fun hc1 => ?_) (fun hc1 => absurd hc1 (by decide))
    obtain ⟨g1, g2, g3⟩ := hf9
    obtain ⟨kn, e_kn⟩ : ∃ q : Nat, k = (q : Int) := ⟨(k).toNat, by omega⟩
    obtain ⟨jn, e_jn⟩ : ∃ q : Nat, i = (q : Int) := ⟨(i).toNat, by omega⟩
    have hnu := hnul kn (by omega) jn (by omega)
    refine lv_iload_n hx hb d_P_note_11 rfl (lv_at hl 3 rfl) ?_
    by_cases hs12_0 : c9 = 0
    · skip
      refine lv_tableIn (tgt := 44) (off := 32) hx hb d_P_note_12 (by rw [J_toInt hc9, hs12_0]; decide) (by rw [J_toInt hc9, hs12_0]; decide) (by rw [J_toInt hc9, hs12_0]; rfl) (by decide) ?_
      refine lv_aload_n hx hb d_P_note_44 rfl (lv_at hl 0 rfl) ?_
      refine y_getr hx hb hA in_P hown hK.1 hW 0 (by omega) lay_0 rfl 4 (by decide) (hA _ k_fl_P_47) rfl d_P_note_45 ?_
      refine lv_iload_n hx hb d_P_note_48 rfl (lv_at hl 1 rfl) ?_
      refine y_aald hx hb hK.1 hW 52 (by omega) lay_52 rfl (by decide) kn (by omega) (by omega) d_P_note_49 ?_
      refine y_getr hx hb hA in_Key hown hK.1 hW (53 + 5 * kn) (by omega) (lay_Key (n := kn) (by omega)) rfl 3 (by decide) (hA _ k_fl_P_169) rfl d_P_note_50 ?_
      refine lv_iload_n hx hb d_P_note_53 rfl (lv_at hl 2 rfl) ?_
      refine y_iald hx hb hK.1 hW (53 + 5 * kn + 2) (by omega) (lay_Kval (n := kn) (by omega)) rfl (by decide) jn (by omega) (by omega) d_P_note_54 ?_
      exact y_reti hx hb hr hlocks hS (by rw [cif_t ⟨g1, g2, g3⟩, show k.toNat = kn by omega, show i.toNat = jn by omega, if_pos hs12_0]) d_P_note_55
    by_cases hs12_1 : c9 = 1
    · skip
      refine lv_tableIn (tgt := 56) (off := 44) hx hb d_P_note_12 (by rw [J_toInt hc9, hs12_1]; decide) (by rw [J_toInt hc9, hs12_1]; decide) (by rw [J_toInt hc9, hs12_1]; rfl) (by decide) ?_
      refine lv_aload_n hx hb d_P_note_56 rfl (lv_at hl 0 rfl) ?_
      refine y_getr hx hb hA in_P hown hK.1 hW 0 (by omega) lay_0 rfl 4 (by decide) (hA _ k_fl_P_47) rfl d_P_note_57 ?_
      refine lv_iload_n hx hb d_P_note_60 rfl (lv_at hl 1 rfl) ?_
      refine y_aald hx hb hK.1 hW 52 (by omega) lay_52 rfl (by decide) kn (by omega) (by omega) d_P_note_61 ?_
      refine y_getr hx hb hA in_Key hown hK.1 hW (53 + 5 * kn) (by omega) (lay_Key (n := kn) (by omega)) rfl 4 (by decide) (hA _ k_fl_P_172) rfl d_P_note_62 ?_
      refine lv_iload_n hx hb d_P_note_65 rfl (lv_at hl 2 rfl) ?_
      refine y_iald hx hb hK.1 hW (53 + 5 * kn + 3) (by omega) (lay_Ktrp (n := kn) (by omega)) rfl (by decide) jn (by omega) (by omega) d_P_note_66 ?_
      exact y_reti hx hb hr hlocks hS (by rw [cif_t ⟨g1, g2, g3⟩, show k.toNat = kn by omega, show i.toNat = jn by omega, if_neg hs12_0, if_pos hs12_1]) d_P_note_67
    by_cases hs12_2 : c9 = 2
    · skip
      refine lv_tableIn (tgt := 68) (off := 56) hx hb d_P_note_12 (by rw [J_toInt hc9, hs12_2]; decide) (by rw [J_toInt hc9, hs12_2]; decide) (by rw [J_toInt hc9, hs12_2]; rfl) (by decide) ?_
      refine lv_aload_n hx hb d_P_note_68 rfl (lv_at hl 0 rfl) ?_
      refine y_getr hx hb hA in_P hown hK.1 hW 0 (by omega) lay_0 rfl 2 (by decide) (hA _ k_fl_P_34) rfl d_P_note_69 ?_
      refine lv_aload_n hx hb d_P_note_72 rfl (lv_at hl 0 rfl) ?_
      refine y_getr hx hb hA in_P hown hK.1 hW 0 (by omega) lay_0 rfl 4 (by decide) (hA _ k_fl_P_47) rfl d_P_note_73 ?_
      refine lv_iload_n hx hb d_P_note_76 rfl (lv_at hl 1 rfl) ?_
      refine y_aald hx hb hK.1 hW 52 (by omega) lay_52 rfl (by decide) kn (by omega) (by omega) d_P_note_77 ?_
      refine y_getr hx hb hA in_Key hown hK.1 hW (53 + 5 * kn) (by omega) (lay_Key (n := kn) (by omega)) rfl 5 (by decide) (hA _ k_fl_P_175) rfl d_P_note_78 ?_
      refine lv_iload_n hx hb d_P_note_81 rfl (lv_at hl 2 rfl) ?_
      refine y_iald hx hb hK.1 hW (53 + 5 * kn + 4) (by omega) (lay_Knul (n := kn) (by omega)) rfl (by decide) jn (by omega) (by omega) d_P_note_82 ?_
      refine y_ci (y_runV (As := [.int (J (σ (53 + 5 * kn + 4) jn))]) (rest := []) ⟨hx, hb, hml, hown, hts⟩ (c_Chain_reveals l G z σ nb hnbr hnb sc hsc (σ (53 + 5 * kn + 4) jn) hnu hnr) 1 k_co_Chain_reveals k_ml_P_166 k_im_Chain_reveals k_se_Chain_reveals k_in_Chain rfl rfl (by decide +kernel) ⟨Nat.le_of_ble_eq_true rfl, Nat.le_of_ble_eq_true rfl⟩ (yPv (yK_bl G) (yK_mv G) hK hK.1 hW (by omega) lay_17 rfl (by omega) (by omega)) rfl hl.1 rfl (Nat.le_of_ble_eq_true rfl) d_P_note_83 ⟨Nat.zero_le _, Nat.zero_le _⟩) hS hW (fun H locs hW hS => ?_)
      by_cases hrv : revB σ sc (σ (53 + 5 * kn + 4) jn) nb
      · skip
        rw [b01_t hrv]
        refine y_if_eq (tgt := 93) hx hb d_P_note_86 (by decide) ⟨by omega, by omega⟩ (fun hc2 => absurd hc2 (by decide)) (fun hc2 => ?_)
        refine lv_iconst (v := J (1)) hx hb d_P_note_89 rfl ?_
        refine lv_goto (tgt := 94) hx hb d_P_note_90 (by decide) ?_
        exact y_reti hx hb hr hlocks hS (by rw [cif_t ⟨g1, g2, g3⟩, show k.toNat = kn by omega, show i.toNat = jn by omega, if_neg hs12_0, if_neg hs12_1, if_pos hs12_2, b01_t hrv]) d_P_note_94
      · skip
        rw [b01_f hrv]
        refine y_if_eq (tgt := 93) hx hb d_P_note_86 (by decide) ⟨by omega, by omega⟩ (fun hc3 => ?_) (fun hc3 => absurd hc3 (by decide))
        refine lv_iconst (v := J (0)) hx hb d_P_note_93 rfl ?_
        exact y_reti hx hb hr hlocks hS (by rw [cif_t ⟨g1, g2, g3⟩, show k.toNat = kn by omega, show i.toNat = jn by omega, if_neg hs12_0, if_neg hs12_1, if_pos hs12_2, b01_f hrv]) d_P_note_94
    by_cases hs12_3 : c9 = 3
    · skip
      refine lv_tableIn (tgt := 95) (off := 83) hx hb d_P_note_12 (by rw [J_toInt hc9, hs12_3]; decide) (by rw [J_toInt hc9, hs12_3]; decide) (by rw [J_toInt hc9, hs12_3]; rfl) (by decide) ?_
      refine lv_aload_n hx hb d_P_note_95 rfl (lv_at hl 0 rfl) ?_
      refine y_getr hx hb hA in_P hown hK.1 hW 0 (by omega) lay_0 rfl 4 (by decide) (hA _ k_fl_P_47) rfl d_P_note_96 ?_
      refine lv_iload_n hx hb d_P_note_99 rfl (lv_at hl 1 rfl) ?_
      refine y_aald hx hb hK.1 hW 52 (by omega) lay_52 rfl (by decide) kn (by omega) (by omega) d_P_note_100 ?_
      refine y_getr hx hb hA in_Key hown hK.1 hW (53 + 5 * kn) (by omega) (lay_Key (n := kn) (by omega)) rfl 5 (by decide) (hA _ k_fl_P_175) rfl d_P_note_101 ?_
      refine lv_iload_n hx hb d_P_note_104 rfl (lv_at hl 2 rfl) ?_
      refine y_iald hx hb hK.1 hW (53 + 5 * kn + 4) (by omega) (lay_Knul (n := kn) (by omega)) rfl (by decide) jn (by omega) (by omega) d_P_note_105 ?_
      exact y_reti hx hb hr hlocks hS (by rw [cif_t ⟨g1, g2, g3⟩, show k.toNat = kn by omega, show i.toNat = jn by omega, if_neg hs12_0, if_neg hs12_1, if_neg hs12_2, if_pos hs12_3]) d_P_note_106
    refine lv_tableOut (tgt := 107) hx hb d_P_note_12 (by rw [J_toInt hc9]; omega) (by decide) ?_
    refine lv_iconst (v := J (-1)) hx hb d_P_note_107 rfl ?_
    exact y_reti hx hb hr hlocks hS (by rw [cif_t ⟨g1, g2, g3⟩, show k.toNat = kn by omega, show i.toNat = jn by omega, if_neg hs12_0, if_neg hs12_1, if_neg hs12_2, if_neg hs12_3]) d_P_note_108
  · skip
    rw [b01_f hf9]
    refine y_if_ne (tgt := 11) hx hb d_P_note_6 (by decide) ⟨by omega, by omega⟩ (fun hc4 => absurd hc4 (by decide)) (fun hc4 => ?_)
    refine lv_iconst (v := J (-1)) hx hb d_P_note_9 rfl ?_
    exact y_reti hx hb hr hlocks hS (cif_f hf9).symm d_P_note_10

set_option maxHeartbeats 4000000 in
set_option maxRecDepth 100000 in
theorem c_P_total (l : Launch) (G : yG) (z : Nat) (σ : yM) (nk : Nat) (hnk : nk ≤ 4) (hk0 : σ 0 5 = (nk : Int)) (fl : Nat) (hflr : fl ≤ 16) (hfl : σ 12 5 = (fl : Int)) (hfnd : ∀ k, k < nk → ∀ i, i < fl → σ (53 + 5 * k + 1) i = 0 ∨ σ (53 + 5 * k + 1) i = 1) (nb : Nat) (hnbr : nb ≤ 12) (hnb : σ 17 2 = (nb : Int)) (sc : Nat → Nat) (hsc : ∀ i, i < nb → sc i ≤ 2 ∧ σ (19 + 2 * i) 1 = (sc i : Int)) (hnr : ∀ i, i < nb → ∀ j, j < sc i → jr (σ (19 + 2 * i + 1) j)) (hnul : ∀ k, k < nk → ∀ i, i < fl → jr (σ (53 + 5 * k + 4) i)) (k : Int) (hk9 : jr k) : Met l y_P_total (Cond.code y_P_total b_P_total 5 (some .int) :: yT) ({ frames := 1, cells := 0, slots := 0, locals := 23 } : Room) (yP ycl G yLP 0 73 z σ (yK G) [.ref (z + 0), .int (J (k))]) (yQi (if 0 ≤ k ∧ k < (nk : Int) then sm (fun i => cif (σ (53 + 5 * k.toNat + 1) i = 1 ∧ ¬ revB σ sc (σ (53 + 5 * k.toNat + 4) i) nb) (σ (53 + 5 * k.toNat + 2) i) 0) fl else -1)) 0 0 yN := by
  refine y_met (by decide +kernel) (Nat.le_of_ble_eq_true rfl) ?_
  intro p e s m below meth c ls hx hb hr hml hlocks hown hname hts hv hl
  have hA : ∀ w ∈ yT, w.before _ s = true := fun w h => hts w (List.mem_cons_of_mem _ h)
  have hl : lv_has ls 5 [(0, .ref (z + 0)), (1, .int (J (k)))] := hl
  obtain ⟨hW, hK⟩ := hv
  have hS : va_S yN s.heap s.heap [] := va_S.rf
  refine lv_aload_n hx hb d_P_total_0 rfl (lv_at hl 0 rfl) ?_
  refine lv_iload_n hx hb d_P_total_1 rfl (lv_at hl 1 rfl) ?_
  refine y_ci (y_runV (As := [.int (J (k))]) (rest := []) ⟨hx, hb, hml, hown, hts⟩ (c_P_isKey l G z σ nk hnk hk0 (k) ⟨by omega, by omega⟩) 1 k_co_P_isKey k_ml_P_91 k_im_P_isKey k_se_P_isKey k_in_P rfl rfl (by decide +kernel) ⟨Nat.le_of_ble_eq_true rfl, Nat.le_of_ble_eq_true rfl⟩ (yPv (yK_bl G) (yK_mv G) hK hK.1 hW (by omega) lay_0 rfl (by omega) (by omega)) rfl hl.1 rfl (Nat.le_of_ble_eq_true rfl) d_P_total_2 ⟨Nat.zero_le _, Nat.zero_le _⟩) hS hW (fun H locs hW hS => ?_)
  by_cases hq2 : 0 ≤ k ∧ k < (nk : Int)
  · skip
    rw [show (if 0 ≤ k ∧ k < (nk : Int) then (1 : Int) else 0) = 1 from if_pos hq2]
    refine y_if_ne (tgt := 10) hx hb d_P_total_5 (by decide) ⟨by omega, by omega⟩ (fun hc1 => ?_) (fun hc1 => absurd hc1 (by decide))
    obtain ⟨kn, e_kn⟩ : ∃ q : Nat, k = (q : Int) := ⟨(k).toNat, by omega⟩
    refine lv_aload_n hx hb d_P_total_10 rfl (lv_at hl 0 rfl) ?_
    refine y_getr hx hb hA in_P hown hK.1 hW 0 (by omega) lay_0 rfl 4 (by decide) (hA _ k_fl_P_47) rfl d_P_total_11 ?_
    refine lv_iload_n hx hb d_P_total_14 rfl (lv_at hl 1 rfl) ?_
    refine y_aald hx hb hK.1 hW 52 (by omega) lay_52 rfl (by decide) kn (by omega) (by omega) d_P_total_15 ?_
    refine lv_astore_n (lv' := [(2, .ref (z + (53 + 5 * kn))), (0, .ref (z + 0)), (1, .int (J (k)))]) hx hb d_P_total_16 rfl hl (by decide) rfl (fun ls hl => ?_)
    refine lv_iconst (v := J (0)) hx hb d_P_total_17 rfl ?_
    refine lv_istore_n (lv' := [(3, .int (J (0))), (2, .ref (z + (53 + 5 * kn))), (0, .ref (z + 0)), (1, .int (J (k)))]) hx hb d_P_total_18 rfl hl (by decide) rfl (fun ls hl => ?_)
    refine lv_iconst (v := J (0)) hx hb d_P_total_19 rfl ?_
    refine lv_istore (lv' := [(4, .int (J (0))), (3, .int (J (0))), (2, .ref (z + (53 + 5 * kn))), (0, .ref (z + 0)), (1, .int (J (k)))]) hx hb d_P_total_20 hl (by decide) rfl (fun ls hl => ?_)
    have loop22 : ∀ (q9 j : Nat), j + q9 = fl → ∀ (ls : Array Slot) (H : Heap) (locs : List Loc), yW ycl G yLP 0 73 z σ H → va_S yN s.heap H locs → lv_has ls 5 [(4, .int (J (((j : Nat) : Int)))), (3, .int (J (sm (fun i => cif (σ (53 + 5 * kn + 1) i = 1 ∧ ¬ revB σ sc (σ (53 + 5 * kn + 4) i) nb) (σ (53 + 5 * kn + 2) i) 0) j))), (2, .ref (z + (53 + 5 * kn))), (0, .ref (z + 0)), (1, .int (J (k)))] → W p l e ({ frames := 1, cells := 0, slots := 0, locals := 23 } : Room) s m ([.ref (z + 0), .int (J (k))] : List Value).toArray below meth c H locs 0 0 (MQ below (yQi (if 0 ≤ k ∧ k < (nk : Int) then sm (fun i => cif (σ (53 + 5 * k.toNat + 1) i = 1 ∧ ¬ revB σ sc (σ (53 + 5 * k.toNat + 4) i) nb) (σ (53 + 5 * k.toNat + 2) i) 0) fl else -1)) ([.ref (z + 0), .int (J (k))] : List Value).toArray s 0 0 yN) (F0 m 22 ls []) := by
      intro q9
      induction q9 with
      | zero =>
        intro j hjk ls H locs hW hS hl
        have hjN : fl = j := by omega
        subst hjN
        refine lv_iload hx hb d_P_total_22 (lv_at hl 0 rfl) ?_
        refine lv_aload_n hx hb d_P_total_24 rfl (lv_at hl 3 rfl) ?_
        refine y_getr hx hb hA in_P hown hK.1 hW 0 (by omega) lay_0 rfl 1 (by decide) (hA _ k_fl_P_21) rfl d_P_total_25 ?_
        refine y_geti hx hb hA in_Tree hown hK.1 hW 12 (by omega) lay_12 rfl 5 (by decide) (hA _ k_fl_P_64) rfl d_P_total_28 ?_
        rw [hfl]
        refine y_icmp_ge (tgt := 77) hx hb d_P_total_31 (by decide) ⟨by omega, by omega⟩ ⟨by omega, by omega⟩ (fun hc2 => ?_) (fun hc2 => absurd hc2 (by omega))
        refine lv_iload_n hx hb d_P_total_77 rfl (lv_at hl 1 rfl) ?_
        exact y_reti hx hb hr hlocks hS (by rw [if_pos (by omega), show k.toNat = kn by omega]) d_P_total_78
      | succ q9 ih =>
        intro j hjk ls H locs hW hS hl
        have hfv := hfnd kn (by omega) j (by omega)
        have hnu := hnul kn (by omega) j (by omega)
        refine lv_iload hx hb d_P_total_22 (lv_at hl 0 rfl) ?_
        refine lv_aload_n hx hb d_P_total_24 rfl (lv_at hl 3 rfl) ?_
        refine y_getr hx hb hA in_P hown hK.1 hW 0 (by omega) lay_0 rfl 1 (by decide) (hA _ k_fl_P_21) rfl d_P_total_25 ?_
        refine y_geti hx hb hA in_Tree hown hK.1 hW 12 (by omega) lay_12 rfl 5 (by decide) (hA _ k_fl_P_64) rfl d_P_total_28 ?_
        rw [hfl]
        refine y_icmp_ge (tgt := 77) hx hb d_P_total_31 (by decide) ⟨by omega, by omega⟩ ⟨by omega, by omega⟩ (fun hc3 => absurd hc3 (by omega)) (fun hc3 => ?_)
        refine lv_aload_n hx hb d_P_total_34 rfl (lv_at hl 2 rfl) ?_
        refine y_getr hx hb hA in_Key hown hK.1 hW (53 + 5 * kn) (by omega) (lay_Key (n := kn) (by omega)) rfl 2 (by decide) (hA _ k_fl_P_178) rfl d_P_total_35 ?_
        refine lv_iload hx hb d_P_total_38 (lv_at hl 0 rfl) ?_
        refine y_zald hx hb hK.1 hW (53 + 5 * kn + 1) (by omega) (lay_Kfnd (n := kn) (by omega)) rfl (by decide) j rfl (by omega) d_P_total_40 ?_
        refine y_if_eq (tgt := 71) hx hb d_P_total_41 (by decide) ⟨by omega, by omega⟩ (fun hc4 => ?_) (fun hc4 => ?_)
        · skip
          refine lv_iinc (k := 0) (v := J (((j + 1 : Nat) : Int))) (lv' := [(4, .int (J (((j + 1 : Nat) : Int)))), (3, .int (J (sm (fun i => cif (σ (53 + 5 * kn + 1) i = 1 ∧ ¬ revB σ sc (σ (53 + 5 * kn + 4) i) nb) (σ (53 + 5 * kn + 2) i) 0) j))), (2, .ref (z + (53 + 5 * kn))), (0, .ref (z + 0)), (1, .int (J (k)))]) hx hb d_P_total_71 hl rfl (by rw [Int.natCast_add j 1]; exact J_add _ _) (by decide) rfl (fun ls hl => ?_)
          refine lv_goto (tgt := 22) hx hb d_P_total_74 (by decide) ?_
          refine ih (j + 1) (by omega) ls H locs hW hS ?_
          have e : sm (fun i => cif (σ (53 + 5 * kn + 1) i = 1 ∧ ¬ revB σ sc (σ (53 + 5 * kn + 4) i) nb) (σ (53 + 5 * kn + 2) i) 0) (j + 1) = sm (fun i => cif (σ (53 + 5 * kn + 1) i = 1 ∧ ¬ revB σ sc (σ (53 + 5 * kn + 4) i) nb) (σ (53 + 5 * kn + 2) i) 0) j + (fun i => cif (σ (53 + 5 * kn + 1) i = 1 ∧ ¬ revB σ sc (σ (53 + 5 * kn + 4) i) nb) (σ (53 + 5 * kn + 2) i) 0) j := rfl
          have e2 : (fun i => cif (σ (53 + 5 * kn + 1) i = 1 ∧ ¬ revB σ sc (σ (53 + 5 * kn + 4) i) nb) (σ (53 + 5 * kn + 2) i) 0) j = 0 := cif_f (fun hh => by first | exact hh.2 hrv | exact absurd hh.1 (by omega))
          rw [e, e2, Int.add_zero]
          exact hl
        · skip
          refine lv_aload_n hx hb d_P_total_44 rfl (lv_at hl 3 rfl) ?_
          refine y_getr hx hb hA in_P hown hK.1 hW 0 (by omega) lay_0 rfl 2 (by decide) (hA _ k_fl_P_34) rfl d_P_total_45 ?_
          refine lv_aload_n hx hb d_P_total_48 rfl (lv_at hl 2 rfl) ?_
          refine y_getr hx hb hA in_Key hown hK.1 hW (53 + 5 * kn) (by omega) (lay_Key (n := kn) (by omega)) rfl 5 (by decide) (hA _ k_fl_P_175) rfl d_P_total_49 ?_
          refine lv_iload hx hb d_P_total_52 (lv_at hl 0 rfl) ?_
          refine y_iald hx hb hK.1 hW (53 + 5 * kn + 4) (by omega) (lay_Knul (n := kn) (by omega)) rfl (by decide) j rfl (by omega) d_P_total_54 ?_
          refine y_ci (y_runV (As := [.int (J (σ (53 + 5 * kn + 4) j))]) (rest := []) ⟨hx, hb, hml, hown, hts⟩ (c_Chain_reveals l G z σ nb hnbr hnb sc hsc (σ (53 + 5 * kn + 4) j) hnu hnr) 1 k_co_Chain_reveals k_ml_P_166 k_im_Chain_reveals k_se_Chain_reveals k_in_Chain rfl rfl (by decide +kernel) ⟨Nat.le_of_ble_eq_true rfl, Nat.le_of_ble_eq_true rfl⟩ (yPv (yK_bl G) (yK_mv G) hK hK.1 hW (by omega) lay_17 rfl (by omega) (by omega)) rfl hl.1 rfl (Nat.le_of_ble_eq_true rfl) d_P_total_55 ⟨Nat.zero_le _, Nat.zero_le _⟩) hS hW (fun H locs hW hS => ?_)
          by_cases hrv : revB σ sc (σ (53 + 5 * kn + 4) j) nb
          · skip
            rw [b01_t hrv]
            refine y_if_ne (tgt := 71) hx hb d_P_total_58 (by decide) ⟨by omega, by omega⟩ (fun hc5 => ?_) (fun hc5 => absurd hc5 (by decide))
            refine lv_iinc (k := 0) (v := J (((j + 1 : Nat) : Int))) (lv' := [(4, .int (J (((j + 1 : Nat) : Int)))), (3, .int (J (sm (fun i => cif (σ (53 + 5 * kn + 1) i = 1 ∧ ¬ revB σ sc (σ (53 + 5 * kn + 4) i) nb) (σ (53 + 5 * kn + 2) i) 0) j))), (2, .ref (z + (53 + 5 * kn))), (0, .ref (z + 0)), (1, .int (J (k)))]) hx hb d_P_total_71 hl rfl (by rw [Int.natCast_add j 1]; exact J_add _ _) (by decide) rfl (fun ls hl => ?_)
            refine lv_goto (tgt := 22) hx hb d_P_total_74 (by decide) ?_
            refine ih (j + 1) (by omega) ls H locs hW hS ?_
            have e : sm (fun i => cif (σ (53 + 5 * kn + 1) i = 1 ∧ ¬ revB σ sc (σ (53 + 5 * kn + 4) i) nb) (σ (53 + 5 * kn + 2) i) 0) (j + 1) = sm (fun i => cif (σ (53 + 5 * kn + 1) i = 1 ∧ ¬ revB σ sc (σ (53 + 5 * kn + 4) i) nb) (σ (53 + 5 * kn + 2) i) 0) j + (fun i => cif (σ (53 + 5 * kn + 1) i = 1 ∧ ¬ revB σ sc (σ (53 + 5 * kn + 4) i) nb) (σ (53 + 5 * kn + 2) i) 0) j := rfl
            have e2 : (fun i => cif (σ (53 + 5 * kn + 1) i = 1 ∧ ¬ revB σ sc (σ (53 + 5 * kn + 4) i) nb) (σ (53 + 5 * kn + 2) i) 0) j = 0 := cif_f (fun hh => by first | exact hh.2 hrv | exact absurd hh.1 (by omega))
            rw [e, e2, Int.add_zero]
            exact hl
          · skip
            rw [b01_f hrv]
            refine y_if_ne (tgt := 71) hx hb d_P_total_58 (by decide) ⟨by omega, by omega⟩ (fun hc6 => absurd hc6 (by decide)) (fun hc6 => ?_)
            refine lv_iload_n hx hb d_P_total_61 rfl (lv_at hl 1 rfl) ?_
            refine lv_aload_n hx hb d_P_total_62 rfl (lv_at hl 2 rfl) ?_
            refine y_getr hx hb hA in_Key hown hK.1 hW (53 + 5 * kn) (by omega) (lay_Key (n := kn) (by omega)) rfl 3 (by decide) (hA _ k_fl_P_169) rfl d_P_total_63 ?_
            refine lv_iload hx hb d_P_total_66 (lv_at hl 0 rfl) ?_
            refine y_iald hx hb hK.1 hW (53 + 5 * kn + 2) (by omega) (lay_Kval (n := kn) (by omega)) rfl (by decide) j rfl (by omega) d_P_total_68 ?_
            refine y_iadd hx hb d_P_total_69 ?_
            refine lv_istore_n (lv' := [(3, .int (J ((sm (fun i => cif (σ (53 + 5 * kn + 1) i = 1 ∧ ¬ revB σ sc (σ (53 + 5 * kn + 4) i) nb) (σ (53 + 5 * kn + 2) i) 0) j) + (σ (53 + 5 * kn + 2) j)))), (4, .int (J (((j : Nat) : Int)))), (2, .ref (z + (53 + 5 * kn))), (0, .ref (z + 0)), (1, .int (J (k)))]) hx hb d_P_total_70 rfl hl (by decide) rfl (fun ls hl => ?_)
            refine lv_iinc (k := 1) (v := J (((j + 1 : Nat) : Int))) (lv' := [(4, .int (J (((j + 1 : Nat) : Int)))), (3, .int (J ((sm (fun i => cif (σ (53 + 5 * kn + 1) i = 1 ∧ ¬ revB σ sc (σ (53 + 5 * kn + 4) i) nb) (σ (53 + 5 * kn + 2) i) 0) j) + (σ (53 + 5 * kn + 2) j)))), (2, .ref (z + (53 + 5 * kn))), (0, .ref (z + 0)), (1, .int (J (k)))]) hx hb d_P_total_71 hl rfl (by rw [Int.natCast_add j 1]; exact J_add _ _) (by decide) rfl (fun ls hl => ?_)
            refine lv_goto (tgt := 22) hx hb d_P_total_74 (by decide) ?_
            refine ih (j + 1) (by omega) ls H locs hW hS ?_
            have e : sm (fun i => cif (σ (53 + 5 * kn + 1) i = 1 ∧ ¬ revB σ sc (σ (53 + 5 * kn + 4) i) nb) (σ (53 + 5 * kn + 2) i) 0) (j + 1) = sm (fun i => cif (σ (53 + 5 * kn + 1) i = 1 ∧ ¬ revB σ sc (σ (53 + 5 * kn + 4) i) nb) (σ (53 + 5 * kn + 2) i) 0) j + (fun i => cif (σ (53 + 5 * kn + 1) i = 1 ∧ ¬ revB σ sc (σ (53 + 5 * kn + 4) i) nb) (σ (53 + 5 * kn + 2) i) 0) j := rfl
            have e2 : (fun i => cif (σ (53 + 5 * kn + 1) i = 1 ∧ ¬ revB σ sc (σ (53 + 5 * kn + 4) i) nb) (σ (53 + 5 * kn + 2) i) 0) j = σ (53 + 5 * kn + 2) j := cif_t ⟨by omega, hrv⟩
            rw [e, e2]
            exact hl
    exact loop22 fl 0 (by omega) ls _ _ hW hS hl
  · skip
    rw [show (if 0 ≤ k ∧ k < (nk : Int) then (1 : Int) else 0) = 0 from if_neg hq2]
    refine y_if_ne (tgt := 10) hx hb d_P_total_5 (by decide) ⟨by omega, by omega⟩ (fun hc7 => absurd hc7 (by decide)) (fun hc7 => ?_)
    refine lv_iconst (v := J (-1)) hx hb d_P_total_8 rfl ?_
    exact y_reti hx hb hr hlocks hS (if_neg (by omega)).symm d_P_total_9

set_option maxHeartbeats 4000000 in
set_option maxRecDepth 100000 in
theorem c_P_address (l : Launch) (G : yG) (z : Nat) (σ : yM) (nk : Nat) (hnk : nk ≤ 4) (hk0 : σ 0 5 = (nk : Int)) (sec : Nat → Int) (hadr : ∀ k, k < nk → σ (53 + 5 * k) 1 = eE (sec k)) (k c9 : Int) (hk9 : jr k) (hc9 : jr c9) : Met l y_P_address (Cond.code y_P_address b_P_address 3 (some .int) :: yT) ({ frames := 1, cells := 0, slots := 0, locals := 21 } : Room) (yP ycl G yLP 0 73 z σ (yK G) [.ref (z + 0), .int (J (k)), .int (J (c9))]) (yQi (if (0 ≤ k ∧ k < (nk : Int)) ∧ 0 ≤ c9 ∧ c9 ≤ 1 then (if c9 = 0 then eX (sec k.toNat) else eY (sec k.toNat)) else -1)) 0 0 yN := by
  refine y_met (by decide +kernel) (Nat.le_of_ble_eq_true rfl) ?_
  intro p e s m below meth c ls hx hb hr hml hlocks hown hname hts hv hl
  have hA : ∀ w ∈ yT, w.before _ s = true := fun w h => hts w (List.mem_cons_of_mem _ h)
  have hl : lv_has ls 3 [(0, .ref (z + 0)), (1, .int (J (k))), (2, .int (J (c9)))] := hl
  obtain ⟨hW, hK⟩ := hv
  have hS : va_S yN s.heap s.heap [] := va_S.rf
  refine lv_aload_n hx hb d_P_address_0 rfl (lv_at hl 0 rfl) ?_
  refine lv_iload_n hx hb d_P_address_1 rfl (lv_at hl 1 rfl) ?_
  refine y_ci (y_runV (As := [.int (J (k))]) (rest := []) ⟨hx, hb, hml, hown, hts⟩ (c_P_isKey l G z σ nk hnk hk0 (k) ⟨by omega, by omega⟩) 1 k_co_P_isKey k_ml_P_91 k_im_P_isKey k_se_P_isKey k_in_P rfl rfl (by decide +kernel) ⟨Nat.le_of_ble_eq_true rfl, Nat.le_of_ble_eq_true rfl⟩ (yPv (yK_bl G) (yK_mv G) hK hK.1 hW (by omega) lay_0 rfl (by omega) (by omega)) rfl hl.1 rfl (Nat.le_of_ble_eq_true rfl) d_P_address_2 ⟨Nat.zero_le _, Nat.zero_le _⟩) hS hW (fun H locs hW hS => ?_)
  by_cases hq2 : 0 ≤ k ∧ k < (nk : Int)
  · skip
    rw [show (if 0 ≤ k ∧ k < (nk : Int) then (1 : Int) else 0) = 1 from if_pos hq2]
    refine y_if_eq (tgt := 17) hx hb d_P_address_5 (by decide) ⟨by omega, by omega⟩ (fun hc1 => absurd hc1 (by decide)) (fun hc1 => ?_)
    refine lv_iload_n hx hb d_P_address_8 rfl (lv_at hl 2 rfl) ?_
    refine y_if_lt (tgt := 17) hx hb d_P_address_9 (by decide) ⟨by omega, by omega⟩ (fun hc2 => ?_) (fun hc2 => ?_)
    · skip
      refine lv_iconst (v := J (-1)) hx hb d_P_address_17 rfl ?_
      exact y_reti hx hb hr hlocks hS (if_neg (by omega)).symm d_P_address_18
    · skip
      refine lv_iload_n hx hb d_P_address_12 rfl (lv_at hl 2 rfl) ?_
      refine lv_iconst (v := J (1)) hx hb d_P_address_13 rfl ?_
      refine y_icmp_le (tgt := 19) hx hb d_P_address_14 (by decide) ⟨by omega, by omega⟩ ⟨by omega, by omega⟩ (fun hc3 => ?_) (fun hc3 => ?_)
      · skip
        obtain ⟨kn, e_kn⟩ : ∃ q : Nat, k = (q : Int) := ⟨(k).toNat, by omega⟩
        refine lv_aload_n hx hb d_P_address_19 rfl (lv_at hl 0 rfl) ?_
        refine y_getr hx hb hA in_P hown hK.1 hW 0 (by omega) lay_0 rfl 4 (by decide) (hA _ k_fl_P_47) rfl d_P_address_20 ?_
        refine lv_iload_n hx hb d_P_address_23 rfl (lv_at hl 1 rfl) ?_
        refine y_aald hx hb hK.1 hW 52 (by omega) lay_52 rfl (by decide) kn (by omega) (by omega) d_P_address_24 ?_
        refine y_geti hx hb hA in_Key hown hK.1 hW (53 + 5 * kn) (by omega) (lay_Key (n := kn) (by omega)) rfl 1 (by decide) (hA _ k_fl_P_104) rfl d_P_address_25 ?_
        rw [hadr kn (by omega)]
        refine lv_iload_n hx hb d_P_address_28 rfl (lv_at hl 2 rfl) ?_
        refine y_ci (y_runS (As := [.int (J (eE (sec kn))), .int (J (c9))]) (rest := []) ⟨hx, hb, hml, hown, hts⟩ (c_Curve_coordinate l G (sec kn) (c9) ⟨by omega, by omega⟩) 2 k_co_Curve_coordinate k_ml_P_182 k_st_Curve_coordinate k_in_Curve rfl rfl (by decide +kernel) ⟨Nat.le_of_ble_eq_true rfl, Nat.le_of_ble_eq_true rfl⟩ (yPs0 (yK_bl G) (yK_mv G) hK) rfl hl.1 rfl (Nat.le_of_ble_eq_true rfl) d_P_address_29 ⟨Nat.zero_le _, Nat.zero_le _⟩) hS hW (fun H locs hW hS => ?_)
        exact y_reti hx hb hr hlocks hS ((if_pos (show (0 ≤ k ∧ k < (nk : Int)) ∧ 0 ≤ c9 ∧ c9 ≤ 1 by omega)).trans (by rw [show k.toNat = kn by omega])).symm d_P_address_32
      · skip
        refine lv_iconst (v := J (-1)) hx hb d_P_address_17 rfl ?_
        exact y_reti hx hb hr hlocks hS (if_neg (by omega)).symm d_P_address_18
  · skip
    rw [show (if 0 ≤ k ∧ k < (nk : Int) then (1 : Int) else 0) = 0 from if_neg hq2]
    refine y_if_eq (tgt := 17) hx hb d_P_address_5 (by decide) ⟨by omega, by omega⟩ (fun hc4 => ?_) (fun hc4 => absurd hc4 (by decide))
    refine lv_iconst (v := J (-1)) hx hb d_P_address_17 rfl ?_
    exact y_reti hx hb hr hlocks hS (if_neg (by omega)).symm d_P_address_18

set_option maxHeartbeats 4000000 in
set_option maxRecDepth 100000 in
theorem c_P_draft (l : Launch) (G : yG) (z : Nat) (σ : yM) (ns no : Nat) (hns : ns ≤ 2) (hno : no ≤ 2) (hs : σ 43 2 = (ns : Int)) (ho : σ 43 3 = (no : Int)) (ht : 0 ≤ σ 43 5 ∧ σ 43 5 < 2473) (hsw : ∀ j, j < ns → 0 ≤ σ (46 + 2 * j) 5 ∧ σ (46 + 2 * j) 5 ≤ 2472) (how : ∀ j, j < no → 0 ≤ σ (50 + j) 7 ∧ σ (50 + j) 7 ≤ 2472) (cs co es : Nat → Int) (hcs : ∀ j, j < ns → σ (46 + 2 * j) 9 = eE (cs j)) (hes : ∀ j, j < no → σ (50 + j) 4 = eE (es j)) (hco : ∀ j, j < no → σ (50 + j) 8 = eE (co j)) (c9 : Int) (hc9 : jr c9) : Met l y_P_draft (Cond.code y_P_draft b_P_draft 2 (some .int) :: yT) ({ frames := 3, cells := 0, slots := 0, locals := 65 } : Room) (yP ycl G yLP 0 73 z σ (yK G) [.ref (z + 0), .int (J (c9))]) (yQi (if 0 ≤ c9 ∧ c9 ≤ 25 then (if c9 < 4 then (if c9 = 0 then σ 43 2 else if c9 = 1 then σ 43 3 else if c9 = 2 then σ 43 4 else (σ 43 5 + sm (fun j => σ (46 + 2 * j) 5) ns - sm (fun j => σ (50 + j) 7) no) % 2473) else if c9 < 8 then (if ((c9 - 4) / 2).toNat < ns then (if (c9 - 4) % 2 = 0 then eX (cs ((c9 - 4) / 2).toNat) else eY (cs ((c9 - 4) / 2).toNat)) else -10000) else if c9 < 22 then (if ((c9 - 8) / 7).toNat < no then (if (c9 - 8) % 7 = 0 then σ (50 + ((c9 - 8) / 7).toNat) 3 else if (c9 - 8) % 7 = 1 then eX (es ((c9 - 8) / 7).toNat) else if (c9 - 8) % 7 = 2 then eY (es ((c9 - 8) / 7).toNat) else if (c9 - 8) % 7 = 3 then σ (50 + ((c9 - 8) / 7).toNat) 5 else if (c9 - 8) % 7 = 4 then σ (50 + ((c9 - 8) / 7).toNat) 6 else if (c9 - 8) % 7 = 5 then eX (co ((c9 - 8) / 7).toNat) else eY (co ((c9 - 8) / 7).toNat)) else -10000) else (if ((c9 - 22) / 2).toNat < ns then (if (c9 - 22) % 2 = 0 then σ (46 + 2 * ((c9 - 22) / 2).toNat) 7 else σ (46 + 2 * ((c9 - 22) / 2).toNat) 8) else -10000)) else -10000)) 0 0 yN := by
  refine y_met (by decide +kernel) (Nat.le_of_ble_eq_true rfl) ?_
  intro p e s m below meth c ls hx hb hr hml hlocks hown hname hts hv hl
  have hA : ∀ w ∈ yT, w.before _ s = true := fun w h => hts w (List.mem_cons_of_mem _ h)
  have hl : lv_has ls 2 [(0, .ref (z + 0)), (1, .int (J (c9)))] := hl
  obtain ⟨hW, hK⟩ := hv
  have hS : va_S yN s.heap s.heap [] := va_S.rf
  refine lv_iload_n hx hb d_P_draft_0 rfl (lv_at hl 1 rfl) ?_
  refine y_if_lt (tgt := 10) hx hb d_P_draft_1 (by decide) ⟨by omega, by omega⟩ (fun hc1 => ?_) (fun hc1 => ?_)
  · skip
    refine lv_sipush (v := J (-10000)) hx hb d_P_draft_10 (by decide) ?_
    exact y_reti hx hb hr hlocks hS (if_neg (by omega)).symm d_P_draft_13
  · skip
    refine lv_iload_n hx hb d_P_draft_4 rfl (lv_at hl 1 rfl) ?_
    refine lv_bipush (v := J (25)) hx hb d_P_draft_5 (by decide) ?_
    refine y_icmp_le (tgt := 14) hx hb d_P_draft_7 (by decide) ⟨by omega, by omega⟩ ⟨by omega, by omega⟩ (fun hc2 => ?_) (fun hc2 => ?_)
    · skip
      refine lv_iload_n hx hb d_P_draft_14 rfl (lv_at hl 1 rfl) ?_
      refine lv_iconst (v := J (4)) hx hb d_P_draft_15 rfl ?_
      refine y_icmp_ge (tgt := 28) hx hb d_P_draft_16 (by decide) ⟨by omega, by omega⟩ ⟨by omega, by omega⟩ (fun hc3 => ?_) (fun hc3 => ?_)
      · skip
        refine lv_iload_n hx hb d_P_draft_28 rfl (lv_at hl 1 rfl) ?_
        refine lv_bipush (v := J (8)) hx hb d_P_draft_29 (by decide) ?_
        refine y_icmp_ge (tgt := 52) hx hb d_P_draft_31 (by decide) ⟨by omega, by omega⟩ ⟨by omega, by omega⟩ (fun hc4 => ?_) (fun hc4 => ?_)
        · skip
          refine lv_iload_n hx hb d_P_draft_52 rfl (lv_at hl 1 rfl) ?_
          refine lv_bipush (v := J (22)) hx hb d_P_draft_53 (by decide) ?_
          refine y_icmp_ge (tgt := 80) hx hb d_P_draft_55 (by decide) ⟨by omega, by omega⟩ ⟨by omega, by omega⟩ (fun hc5 => ?_) (fun hc5 => ?_)
          · skip
            refine lv_aload_n hx hb d_P_draft_80 rfl (lv_at hl 0 rfl) ?_
            refine y_getr hx hb hA in_P hown hK.1 hW 0 (by omega) lay_0 rfl 3 (by decide) (hA _ k_fl_P_41) rfl d_P_draft_81 ?_
            refine lv_iload_n hx hb d_P_draft_84 rfl (lv_at hl 1 rfl) ?_
            refine lv_bipush (v := J (22)) hx hb d_P_draft_85 (by decide) ?_
            refine y_isub hx hb d_P_draft_87 ?_
            refine lv_iconst (v := J (2)) hx hb d_P_draft_88 rfl ?_
            refine y_idiv hx hb d_P_draft_89 (by omega) (by omega) (by decide) ?_
            obtain ⟨jn, e_jn⟩ : ∃ q : Nat, (q : Int) = (c9 - 22) / 2 := ⟨((c9 - 22) / 2).toNat, by omega⟩
            rw [← e_jn]
            refine lv_iload_n hx hb d_P_draft_90 rfl (lv_at hl 1 rfl) ?_
            refine lv_bipush (v := J (22)) hx hb d_P_draft_91 (by decide) ?_
            refine y_isub hx hb d_P_draft_93 ?_
            refine lv_iconst (v := J (2)) hx hb d_P_draft_94 rfl ?_
            refine y_irem hx hb d_P_draft_95 (by omega) (by omega) (by decide) ?_
            refine y_ci (y_runV (As := [.int (J ((jn : Int))), .int (J ((c9 - 22) % 2))]) (rest := []) ⟨hx, hb, hml, hown, hts⟩ (c_Draft_markOfSpend l G z σ ns hns hs jn (by omega) ((c9 - 22) % 2) ⟨by omega, by omega⟩) 2 k_co_Draft_markOfSpend k_ml_P_197 k_im_Draft_markOfSpend k_se_Draft_markOfSpend k_in_Draft rfl rfl (by decide +kernel) ⟨Nat.le_of_ble_eq_true rfl, Nat.le_of_ble_eq_true rfl⟩ (yPv (yK_bl G) (yK_mv G) hK hK.1 hW (by omega) lay_43 rfl (by omega) (by omega)) rfl hl.1 rfl (Nat.le_of_ble_eq_true rfl) d_P_draft_96 ⟨Nat.zero_le _, Nat.zero_le _⟩) hS hW (fun H locs hW hS => ?_)
            exact y_reti hx hb hr hlocks hS ((if_pos (show 0 ≤ c9 ∧ c9 ≤ 25 by omega)).trans ((if_neg (show ¬ c9 < 4 by omega)).trans ((if_neg (show ¬ c9 < 8 by omega)).trans ((if_neg (show ¬ c9 < 22 by omega)).trans (by rw [Int.toNat_natCast]))))).symm d_P_draft_99
          · skip
            refine lv_aload_n hx hb d_P_draft_58 rfl (lv_at hl 0 rfl) ?_
            refine y_getr hx hb hA in_P hown hK.1 hW 0 (by omega) lay_0 rfl 3 (by decide) (hA _ k_fl_P_41) rfl d_P_draft_59 ?_
            refine lv_iload_n hx hb d_P_draft_62 rfl (lv_at hl 1 rfl) ?_
            refine lv_bipush (v := J (8)) hx hb d_P_draft_63 (by decide) ?_
            refine y_isub hx hb d_P_draft_65 ?_
            refine lv_bipush (v := J (7)) hx hb d_P_draft_66 (by decide) ?_
            refine y_idiv hx hb d_P_draft_68 (by omega) (by omega) (by decide) ?_
            obtain ⟨jn, e_jn⟩ : ∃ q : Nat, (q : Int) = (c9 - 8) / 7 := ⟨((c9 - 8) / 7).toNat, by omega⟩
            rw [← e_jn]
            refine lv_iload_n hx hb d_P_draft_69 rfl (lv_at hl 1 rfl) ?_
            refine lv_bipush (v := J (8)) hx hb d_P_draft_70 (by decide) ?_
            refine y_isub hx hb d_P_draft_72 ?_
            refine lv_bipush (v := J (7)) hx hb d_P_draft_73 (by decide) ?_
            refine y_irem hx hb d_P_draft_75 (by omega) (by omega) (by decide) ?_
            refine y_ci (y_runV (As := [.int (J ((jn : Int))), .int (J ((c9 - 8) % 7))]) (rest := []) ⟨hx, hb, hml, hown, hts⟩ (c_Draft_partOfOutput l G z σ no hno ho jn (by omega) ((c9 - 8) % 7) ⟨by omega, by omega⟩ es co hes hco) 2 k_co_Draft_partOfOutput k_ml_P_194 k_im_Draft_partOfOutput k_se_Draft_partOfOutput k_in_Draft rfl rfl (by decide +kernel) ⟨Nat.le_of_ble_eq_true rfl, Nat.le_of_ble_eq_true rfl⟩ (yPv (yK_bl G) (yK_mv G) hK hK.1 hW (by omega) lay_43 rfl (by omega) (by omega)) rfl hl.1 rfl (Nat.le_of_ble_eq_true rfl) d_P_draft_76 ⟨Nat.zero_le _, Nat.zero_le _⟩) hS hW (fun H locs hW hS => ?_)
            exact y_reti hx hb hr hlocks hS ((if_pos (show 0 ≤ c9 ∧ c9 ≤ 25 by omega)).trans ((if_neg (show ¬ c9 < 4 by omega)).trans ((if_neg (show ¬ c9 < 8 by omega)).trans ((if_pos (show c9 < 22 by omega)).trans (by rw [Int.toNat_natCast]))))).symm d_P_draft_79
        · skip
          refine lv_aload_n hx hb d_P_draft_34 rfl (lv_at hl 0 rfl) ?_
          refine y_getr hx hb hA in_P hown hK.1 hW 0 (by omega) lay_0 rfl 3 (by decide) (hA _ k_fl_P_41) rfl d_P_draft_35 ?_
          refine lv_iload_n hx hb d_P_draft_38 rfl (lv_at hl 1 rfl) ?_
          refine lv_iconst (v := J (4)) hx hb d_P_draft_39 rfl ?_
          refine y_isub hx hb d_P_draft_40 ?_
          refine lv_iconst (v := J (2)) hx hb d_P_draft_41 rfl ?_
          refine y_idiv hx hb d_P_draft_42 (by omega) (by omega) (by decide) ?_
          obtain ⟨jn, e_jn⟩ : ∃ q : Nat, (q : Int) = (c9 - 4) / 2 := ⟨((c9 - 4) / 2).toNat, by omega⟩
          rw [← e_jn]
          refine lv_iload_n hx hb d_P_draft_43 rfl (lv_at hl 1 rfl) ?_
          refine lv_iconst (v := J (4)) hx hb d_P_draft_44 rfl ?_
          refine y_isub hx hb d_P_draft_45 ?_
          refine lv_iconst (v := J (2)) hx hb d_P_draft_46 rfl ?_
          refine y_irem hx hb d_P_draft_47 (by omega) (by omega) (by decide) ?_
          refine y_ci (y_runV (As := [.int (J ((jn : Int))), .int (J ((c9 - 4) % 2))]) (rest := []) ⟨hx, hb, hml, hown, hts⟩ (c_Draft_coverOfSpend l G z σ ns hns hs jn (by omega) ((c9 - 4) % 2) ⟨by omega, by omega⟩ cs hcs) 2 k_co_Draft_coverOfSpend k_ml_P_191 k_im_Draft_coverOfSpend k_se_Draft_coverOfSpend k_in_Draft rfl rfl (by decide +kernel) ⟨Nat.le_of_ble_eq_true rfl, Nat.le_of_ble_eq_true rfl⟩ (yPv (yK_bl G) (yK_mv G) hK hK.1 hW (by omega) lay_43 rfl (by omega) (by omega)) rfl hl.1 rfl (Nat.le_of_ble_eq_true rfl) d_P_draft_48 ⟨Nat.zero_le _, Nat.zero_le _⟩) hS hW (fun H locs hW hS => ?_)
          exact y_reti hx hb hr hlocks hS ((if_pos (show 0 ≤ c9 ∧ c9 ≤ 25 by omega)).trans ((if_neg (show ¬ c9 < 4 by omega)).trans ((if_pos (show c9 < 8 by omega)).trans (by rw [Int.toNat_natCast])))).symm d_P_draft_51
      · skip
        refine lv_aload_n hx hb d_P_draft_19 rfl (lv_at hl 0 rfl) ?_
        refine y_getr hx hb hA in_P hown hK.1 hW 0 (by omega) lay_0 rfl 3 (by decide) (hA _ k_fl_P_41) rfl d_P_draft_20 ?_
        refine lv_iload_n hx hb d_P_draft_23 rfl (lv_at hl 1 rfl) ?_
        refine y_ci (y_runV (As := [.int (J (c9))]) (rest := []) ⟨hx, hb, hml, hown, hts⟩ (c_Draft_figure l G z σ ns no hns hno hs ho ht hsw how (c9) ⟨by omega, by omega⟩) 1 k_co_Draft_figure k_ml_P_187 k_im_Draft_figure k_se_Draft_figure k_in_Draft rfl rfl (by decide +kernel) ⟨Nat.le_of_ble_eq_true rfl, Nat.le_of_ble_eq_true rfl⟩ (yPv (yK_bl G) (yK_mv G) hK hK.1 hW (by omega) lay_43 rfl (by omega) (by omega)) rfl hl.1 rfl (Nat.le_of_ble_eq_true rfl) d_P_draft_24 ⟨Nat.zero_le _, Nat.zero_le _⟩) hS hW (fun H locs hW hS => ?_)
        exact y_reti hx hb hr hlocks hS ((if_pos (show 0 ≤ c9 ∧ c9 ≤ 25 by omega)).trans ((if_pos (show c9 < 4 by omega)).trans (rfl))).symm d_P_draft_27
    · skip
      refine lv_sipush (v := J (-10000)) hx hb d_P_draft_10 (by decide) ?_
      exact y_reti hx hb hr hlocks hS (if_neg (by omega)).symm d_P_draft_13

set_option maxHeartbeats 4000000 in
set_option maxRecDepth 100000 in
theorem c_P_clear (l : Launch) (G : yG) (z : Nat) (σ : yM) : Met l y_P_clear (Cond.code y_P_clear b_P_clear 1 (Option.none : Option Jvm.ClassFile.FieldType) :: yT) ({ frames := 1, cells := 0, slots := 0, locals := 20 } : Room) (yP ycl G yLP 0 73 z σ (yK G) [.ref (z + 0)]) (yQh ycl G yLP 0 73 z (fun τ => (∀ d, d ≠ 43 → τ d = σ d) ∧ τ 43 2 = 0 ∧ τ 43 3 = 0 ∧ τ 43 4 = 0 ∧ τ 43 5 = 0)) 0 0 (yA z 0 73) := by
  refine y_met (by decide +kernel) (Nat.le_of_ble_eq_true rfl) ?_
  intro p e s m below meth c ls hx hb hr hml hlocks hown hname hts hv hl
  have hA : ∀ w ∈ yT, w.before _ s = true := fun w h => hts w (List.mem_cons_of_mem _ h)
  have hl : lv_has ls 1 [(0, .ref (z + 0))] := hl
  obtain ⟨hW, hK⟩ := hv
  have hS : va_S (yA z 0 73) s.heap s.heap [] := va_S.rf
  have hAr : ∀ d, 0 ≤ d ∧ d < 0 + 73 → yA z 0 73 (z + d) := yA_all
  refine lv_aload_n hx hb d_P_clear_0 rfl (lv_at hl 0 rfl) ?_
  refine y_getr hx hb hA in_P hown hK.1 hW 0 (by omega) lay_0 rfl 3 (by decide) (hA _ k_fl_P_41) rfl d_P_clear_1 ?_
  refine y_ch (y_runV (As := []) (rest := []) ⟨hx, hb, hml, hown, hts⟩ (c_Draft_empty l G z σ) 0 k_co_Draft_empty k_ml_P_71 k_im_Draft_empty k_se_Draft_empty k_in_Draft rfl rfl (by decide +kernel) ⟨Nat.le_of_ble_eq_true rfl, Nat.le_of_ble_eq_true rfl⟩ (yPv (yK_bl G) (yK_mv G) hK hK.1 hW (by omega) lay_43 rfl (by omega) (by omega)) rfl hl.1 rfl (Nat.le_of_ble_eq_true rfl) d_P_clear_4 ⟨Nat.zero_le _, Nat.zero_le _⟩) hS hAr (fun τ4 H locs hp4 hk4 hW hS => ?_)
  exact y_reth hx hb hr hlocks hS hW hp4 d_P_clear_7

set_option maxHeartbeats 4000000 in
set_option maxRecDepth 100000 in
theorem c_P_balance (l : Launch) (G : yG) (z : Nat) (σ : yM) (b : Int) (hb9 : jr b) : Met l y_P_balance (Cond.code y_P_balance b_P_balance 2 (some .boolean) :: yT) ({ frames := 0, cells := 0, slots := 0, locals := 0 } : Room) (yP ycl G yLP 0 73 z σ (yK G) [.ref (z + 0), .int (J (b))]) (yQg ycl G yLP 0 73 z (fun v τ => (-9999 ≤ b ∧ b ≤ 9999 → v = 1 ∧ τ = y2 σ 43 4 b) ∧ (¬ (-9999 ≤ b ∧ b ≤ 9999) → v = 0 ∧ τ = σ))) 0 0 (yA z 0 73) := by
  refine y_met (by decide +kernel) (Nat.le_of_ble_eq_true rfl) ?_
  intro p e s m below meth c ls hx hb hr hml hlocks hown hname hts hv hl
  have hA : ∀ w ∈ yT, w.before _ s = true := fun w h => hts w (List.mem_cons_of_mem _ h)
  have hl : lv_has ls 2 [(0, .ref (z + 0)), (1, .int (J (b)))] := hl
  obtain ⟨hW, hK⟩ := hv
  have hS : va_S (yA z 0 73) s.heap s.heap [] := va_S.rf
  have hAr : ∀ d, 0 ≤ d ∧ d < 0 + 73 → yA z 0 73 (z + d) := yA_all
  refine lv_iload_n hx hb d_P_balance_0 rfl (lv_at hl 1 rfl) ?_
  refine lv_sipush (v := J (-9999)) hx hb d_P_balance_1 (by decide) ?_
  refine y_icmp_lt (tgt := 14) hx hb d_P_balance_4 (by decide) ⟨by omega, by omega⟩ ⟨by omega, by omega⟩ (fun hc1 => ?_) (fun hc1 => ?_)
  · skip
    refine lv_iconst (v := J (0)) hx hb d_P_balance_14 rfl ?_
    exact y_retgz hx hb hr hlocks hS hW (Or.inl rfl) ⟨fun h => absurd h (by omega), fun _ => ⟨rfl, rfl⟩⟩ d_P_balance_15
  · skip
    refine lv_iload_n hx hb d_P_balance_7 rfl (lv_at hl 1 rfl) ?_
    refine lv_sipush (v := J (9999)) hx hb d_P_balance_8 (by decide) ?_
    refine y_icmp_le (tgt := 16) hx hb d_P_balance_11 (by decide) ⟨by omega, by omega⟩ ⟨by omega, by omega⟩ (fun hc2 => ?_) (fun hc2 => ?_)
    · skip
      refine lv_aload_n hx hb d_P_balance_16 rfl (lv_at hl 0 rfl) ?_
      refine y_getr hx hb hA in_P hown hK.1 hW 0 (by omega) lay_0 rfl 3 (by decide) (hA _ k_fl_P_41) rfl d_P_balance_17 ?_
      refine lv_iload_n hx hb d_P_balance_20 rfl (lv_at hl 1 rfl) ?_
      refine y_puti hx hb hA in_Draft hown hK.1 hW 43 (by omega) lay_43 rfl 4 (by decide) t_Draft tk_Draft nm_Draft hS hAr (hA _ k_fl_P_116) rfl (by decide +kernel) rfl d_P_balance_21 (fun H locs hW hS => ?_)
      refine lv_iconst (v := J (1)) hx hb d_P_balance_24 rfl ?_
      exact y_retgz hx hb hr hlocks hS hW (Or.inr rfl) ⟨fun _ => ⟨rfl, rfl⟩, fun h => absurd (by omega) h⟩ d_P_balance_25
    · skip
      refine lv_iconst (v := J (0)) hx hb d_P_balance_14 rfl ?_
      exact y_retgz hx hb hr hlocks hS hW (Or.inl rfl) ⟨fun h => absurd h (by omega), fun _ => ⟨rfl, rfl⟩⟩ d_P_balance_15
