theorem d_M_leaves_0 : decode b_M_leaves 0 = .ok (.aload_n 0, 1) := by decide +kernel
theorem d_M_leaves_1 : decode b_M_leaves 1 = .ok (.getfield 106, 3) := by decide +kernel
theorem d_M_leaves_4 : decode b_M_leaves 4 = .ok (.ifCond .ne 7, 3) := by decide +kernel
theorem d_M_leaves_7 : decode b_M_leaves 7 = .ok (.iconst 0, 1) := by decide +kernel
theorem d_M_leaves_8 : decode b_M_leaves 8 = .ok (.goto 14, 3) := by decide +kernel
theorem d_M_leaves_11 : decode b_M_leaves 11 = .ok (.aload_n 0, 1) := by decide +kernel
theorem d_M_leaves_12 : decode b_M_leaves 12 = .ok (.getfield 67, 3) := by decide +kernel
theorem d_M_leaves_15 : decode b_M_leaves 15 = .ok (.aload_n 0, 1) := by decide +kernel
theorem d_M_leaves_16 : decode b_M_leaves 16 = .ok (.getfield 106, 3) := by decide +kernel
theorem d_M_leaves_19 : decode b_M_leaves 19 = .ok (.iconst 1, 1) := by decide +kernel
theorem d_M_leaves_20 : decode b_M_leaves 20 = .ok (.isub, 1) := by decide +kernel
theorem d_M_leaves_21 : decode b_M_leaves 21 = .ok (.iaload, 1) := by decide +kernel
theorem d_M_leaves_22 : decode b_M_leaves 22 = .ok (.ireturn, 1) := by decide +kernel
theorem d_M_isKey_0 : decode b_M_isKey 0 = .ok (.iload_n 1, 1) := by decide +kernel
theorem d_M_isKey_1 : decode b_M_isKey 1 = .ok (.iconst 0, 1) := by decide +kernel
theorem d_M_isKey_2 : decode b_M_isKey 2 = .ok (.aload_n 0, 1) := by decide +kernel
theorem d_M_isKey_3 : decode b_M_isKey 3 = .ok (.getfield 121, 3) := by decide +kernel
theorem d_M_isKey_6 : decode b_M_isKey 6 = .ok (.iconst 1, 1) := by decide +kernel
theorem d_M_isKey_7 : decode b_M_isKey 7 = .ok (.isub, 1) := by decide +kernel
theorem d_M_isKey_8 : decode b_M_isKey 8 = .ok (.invokestatic 110, 3) := by decide +kernel
theorem d_M_isKey_11 : decode b_M_isKey 11 = .ok (.ireturn, 1) := by decide +kernel
theorem d_M_key_0 : decode b_M_key 0 = .ok (.aload_n 0, 1) := by decide +kernel
theorem d_M_key_1 : decode b_M_key 1 = .ok (.getfield 121, 3) := by decide +kernel
theorem d_M_key_4 : decode b_M_key 4 = .ok (.iconst 4, 1) := by decide +kernel
theorem d_M_key_5 : decode b_M_key 5 = .ok (.if_icmp .eq 14, 3) := by decide +kernel
theorem d_M_key_8 : decode b_M_key 8 = .ok (.iload_n 1, 1) := by decide +kernel
theorem d_M_key_9 : decode b_M_key 9 = .ok (.iconst 1, 1) := by decide +kernel
theorem d_M_key_10 : decode b_M_key 10 = .ok (.sipush 2472, 3) := by decide +kernel
theorem d_M_key_13 : decode b_M_key 13 = .ok (.invokestatic 110, 3) := by decide +kernel
theorem d_M_key_16 : decode b_M_key 16 = .ok (.ifCond .ne 5, 3) := by decide +kernel
theorem d_M_key_19 : decode b_M_key 19 = .ok (.iconst (-1), 1) := by decide +kernel
theorem d_M_key_20 : decode b_M_key 20 = .ok (.ireturn, 1) := by decide +kernel
theorem d_M_key_21 : decode b_M_key 21 = .ok (.aload_n 0, 1) := by decide +kernel
theorem d_M_key_22 : decode b_M_key 22 = .ok (.getfield 16, 3) := by decide +kernel
theorem d_M_key_25 : decode b_M_key 25 = .ok (.aload_n 0, 1) := by decide +kernel
theorem d_M_key_26 : decode b_M_key 26 = .ok (.getfield 121, 3) := by decide +kernel
theorem d_M_key_29 : decode b_M_key 29 = .ok (.iload_n 1, 1) := by decide +kernel
theorem d_M_key_30 : decode b_M_key 30 = .ok (.iastore, 1) := by decide +kernel
theorem d_M_key_31 : decode b_M_key 31 = .ok (.aload_n 0, 1) := by decide +kernel
theorem d_M_key_32 : decode b_M_key 32 = .ok (.dup, 1) := by decide +kernel
theorem d_M_key_33 : decode b_M_key 33 = .ok (.getfield 121, 3) := by decide +kernel
theorem d_M_key_36 : decode b_M_key 36 = .ok (.iconst 1, 1) := by decide +kernel
theorem d_M_key_37 : decode b_M_key 37 = .ok (.iadd, 1) := by decide +kernel
theorem d_M_key_38 : decode b_M_key 38 = .ok (.putfield 121, 3) := by decide +kernel
theorem d_M_key_41 : decode b_M_key 41 = .ok (.aload_n 0, 1) := by decide +kernel
theorem d_M_key_42 : decode b_M_key 42 = .ok (.getfield 121, 3) := by decide +kernel
theorem d_M_key_45 : decode b_M_key 45 = .ok (.iconst 1, 1) := by decide +kernel
theorem d_M_key_46 : decode b_M_key 46 = .ok (.isub, 1) := by decide +kernel
theorem d_M_key_47 : decode b_M_key 47 = .ok (.ireturn, 1) := by decide +kernel
theorem d_M_address_0 : decode b_M_address 0 = .ok (.aload_n 0, 1) := by decide +kernel
theorem d_M_address_1 : decode b_M_address 1 = .ok (.iload_n 1, 1) := by decide +kernel
theorem d_M_address_2 : decode b_M_address 2 = .ok (.invokevirtual 124, 3) := by decide +kernel
theorem d_M_address_5 : decode b_M_address 5 = .ok (.ifCond .eq 12, 3) := by decide +kernel
theorem d_M_address_8 : decode b_M_address 8 = .ok (.iload_n 2, 1) := by decide +kernel
theorem d_M_address_9 : decode b_M_address 9 = .ok (.iconst 0, 1) := by decide +kernel
theorem d_M_address_10 : decode b_M_address 10 = .ok (.iconst 1, 1) := by decide +kernel
theorem d_M_address_11 : decode b_M_address 11 = .ok (.invokestatic 110, 3) := by decide +kernel
theorem d_M_address_14 : decode b_M_address 14 = .ok (.ifCond .ne 5, 3) := by decide +kernel
theorem d_M_address_17 : decode b_M_address 17 = .ok (.iconst (-1), 1) := by decide +kernel
theorem d_M_address_18 : decode b_M_address 18 = .ok (.ireturn, 1) := by decide +kernel
theorem d_M_address_19 : decode b_M_address 19 = .ok (.iload_n 2, 1) := by decide +kernel
theorem d_M_address_20 : decode b_M_address 20 = .ok (.ifCond .ne 17, 3) := by decide +kernel
theorem d_M_address_23 : decode b_M_address 23 = .ok (.aload_n 0, 1) := by decide +kernel
theorem d_M_address_24 : decode b_M_address 24 = .ok (.getfield 7, 3) := by decide +kernel
theorem d_M_address_27 : decode b_M_address 27 = .ok (.aload_n 0, 1) := by decide +kernel
theorem d_M_address_28 : decode b_M_address 28 = .ok (.getfield 16, 3) := by decide +kernel
theorem d_M_address_31 : decode b_M_address 31 = .ok (.iload_n 1, 1) := by decide +kernel
theorem d_M_address_32 : decode b_M_address 32 = .ok (.iaload, 1) := by decide +kernel
theorem d_M_address_33 : decode b_M_address 33 = .ok (.iaload, 1) := by decide +kernel
theorem d_M_address_34 : decode b_M_address 34 = .ok (.goto 14, 3) := by decide +kernel
theorem d_M_address_37 : decode b_M_address 37 = .ok (.aload_n 0, 1) := by decide +kernel
theorem d_M_address_38 : decode b_M_address 38 = .ok (.getfield 13, 3) := by decide +kernel
theorem d_M_address_41 : decode b_M_address 41 = .ok (.aload_n 0, 1) := by decide +kernel
theorem d_M_address_42 : decode b_M_address 42 = .ok (.getfield 16, 3) := by decide +kernel
theorem d_M_address_45 : decode b_M_address 45 = .ok (.iload_n 1, 1) := by decide +kernel
theorem d_M_address_46 : decode b_M_address 46 = .ok (.iaload, 1) := by decide +kernel
theorem d_M_address_47 : decode b_M_address 47 = .ok (.iaload, 1) := by decide +kernel
theorem d_M_address_48 : decode b_M_address 48 = .ok (.ireturn, 1) := by decide +kernel
theorem d_M_clear_0 : decode b_M_clear 0 = .ok (.aload_n 0, 1) := by decide +kernel
theorem d_M_clear_1 : decode b_M_clear 1 = .ok (.iconst 0, 1) := by decide +kernel
theorem d_M_clear_2 : decode b_M_clear 2 = .ok (.putfield 153, 3) := by decide +kernel
theorem d_M_clear_5 : decode b_M_clear 5 = .ok (.aload_n 0, 1) := by decide +kernel
theorem d_M_clear_6 : decode b_M_clear 6 = .ok (.iconst 0, 1) := by decide +kernel
theorem d_M_clear_7 : decode b_M_clear 7 = .ok (.putfield 156, 3) := by decide +kernel
theorem d_M_clear_10 : decode b_M_clear 10 = .ok (.aload_n 0, 1) := by decide +kernel
theorem d_M_clear_11 : decode b_M_clear 11 = .ok (.iconst 0, 1) := by decide +kernel
theorem d_M_clear_12 : decode b_M_clear 12 = .ok (.putfield 159, 3) := by decide +kernel
theorem d_M_clear_15 : decode b_M_clear 15 = .ok (.aload_n 0, 1) := by decide +kernel
theorem d_M_clear_16 : decode b_M_clear 16 = .ok (.iconst 0, 1) := by decide +kernel
theorem d_M_clear_17 : decode b_M_clear 17 = .ok (.putfield 162, 3) := by decide +kernel
theorem d_M_clear_20 : decode b_M_clear 20 = .ok (.return_, 1) := by decide +kernel
theorem d_M_balance_0 : decode b_M_balance 0 = .ok (.iload_n 1, 1) := by decide +kernel
theorem d_M_balance_1 : decode b_M_balance 1 = .ok (.sipush (-9999), 3) := by decide +kernel
theorem d_M_balance_4 : decode b_M_balance 4 = .ok (.sipush 9999, 3) := by decide +kernel
theorem d_M_balance_7 : decode b_M_balance 7 = .ok (.invokestatic 110, 3) := by decide +kernel
theorem d_M_balance_10 : decode b_M_balance 10 = .ok (.ifCond .ne 5, 3) := by decide +kernel
theorem d_M_balance_13 : decode b_M_balance 13 = .ok (.iconst 0, 1) := by decide +kernel
theorem d_M_balance_14 : decode b_M_balance 14 = .ok (.ireturn, 1) := by decide +kernel
theorem d_M_balance_15 : decode b_M_balance 15 = .ok (.aload_n 0, 1) := by decide +kernel
theorem d_M_balance_16 : decode b_M_balance 16 = .ok (.iload_n 1, 1) := by decide +kernel
theorem d_M_balance_17 : decode b_M_balance 17 = .ok (.putfield 159, 3) := by decide +kernel
theorem d_M_balance_20 : decode b_M_balance 20 = .ok (.iconst 1, 1) := by decide +kernel
theorem d_M_balance_21 : decode b_M_balance 21 = .ok (.ireturn, 1) := by decide +kernel
theorem d_M_seal_0 : decode b_M_seal 0 = .ok (.aload_n 0, 1) := by decide +kernel
theorem d_M_seal_1 : decode b_M_seal 1 = .ok (.getfield 162, 3) := by decide +kernel
theorem d_M_seal_4 : decode b_M_seal 4 = .ok (.istore_n 1, 1) := by decide +kernel
theorem d_M_seal_5 : decode b_M_seal 5 = .ok (.iconst 0, 1) := by decide +kernel
theorem d_M_seal_6 : decode b_M_seal 6 = .ok (.istore_n 2, 1) := by decide +kernel
theorem d_M_seal_7 : decode b_M_seal 7 = .ok (.iload_n 2, 1) := by decide +kernel
theorem d_M_seal_8 : decode b_M_seal 8 = .ok (.aload_n 0, 1) := by decide +kernel
theorem d_M_seal_9 : decode b_M_seal 9 = .ok (.getfield 153, 3) := by decide +kernel
theorem d_M_seal_12 : decode b_M_seal 12 = .ok (.if_icmp .ge 18, 3) := by decide +kernel
theorem d_M_seal_15 : decode b_M_seal 15 = .ok (.iload_n 1, 1) := by decide +kernel
theorem d_M_seal_16 : decode b_M_seal 16 = .ok (.aload_n 0, 1) := by decide +kernel
theorem d_M_seal_17 : decode b_M_seal 17 = .ok (.getfield 31, 3) := by decide +kernel
theorem d_M_seal_20 : decode b_M_seal 20 = .ok (.iload_n 2, 1) := by decide +kernel
theorem d_M_seal_21 : decode b_M_seal 21 = .ok (.iaload, 1) := by decide +kernel
theorem d_M_seal_22 : decode b_M_seal 22 = .ok (.iadd, 1) := by decide +kernel
theorem d_M_seal_23 : decode b_M_seal 23 = .ok (.istore_n 1, 1) := by decide +kernel
theorem d_M_seal_24 : decode b_M_seal 24 = .ok (.iinc 2 1, 3) := by decide +kernel
theorem d_M_seal_27 : decode b_M_seal 27 = .ok (.goto (-20), 3) := by decide +kernel
theorem d_M_seal_30 : decode b_M_seal 30 = .ok (.iconst 0, 1) := by decide +kernel
theorem d_M_seal_31 : decode b_M_seal 31 = .ok (.istore_n 2, 1) := by decide +kernel
theorem d_M_seal_32 : decode b_M_seal 32 = .ok (.iload_n 2, 1) := by decide +kernel
theorem d_M_seal_33 : decode b_M_seal 33 = .ok (.aload_n 0, 1) := by decide +kernel
theorem d_M_seal_34 : decode b_M_seal 34 = .ok (.getfield 156, 3) := by decide +kernel
theorem d_M_seal_37 : decode b_M_seal 37 = .ok (.if_icmp .ge 18, 3) := by decide +kernel
theorem d_M_seal_40 : decode b_M_seal 40 = .ok (.iload_n 1, 1) := by decide +kernel
theorem d_M_seal_41 : decode b_M_seal 41 = .ok (.aload_n 0, 1) := by decide +kernel
theorem d_M_seal_42 : decode b_M_seal 42 = .ok (.getfield 52, 3) := by decide +kernel
theorem d_M_seal_45 : decode b_M_seal 45 = .ok (.iload_n 2, 1) := by decide +kernel
theorem d_M_seal_46 : decode b_M_seal 46 = .ok (.iaload, 1) := by decide +kernel
theorem d_M_seal_47 : decode b_M_seal 47 = .ok (.isub, 1) := by decide +kernel
theorem d_M_seal_48 : decode b_M_seal 48 = .ok (.istore_n 1, 1) := by decide +kernel
theorem d_M_seal_49 : decode b_M_seal 49 = .ok (.iinc 2 1, 3) := by decide +kernel
theorem d_M_seal_52 : decode b_M_seal 52 = .ok (.goto (-20), 3) := by decide +kernel
theorem d_M_seal_55 : decode b_M_seal 55 = .ok (.iload_n 1, 1) := by decide +kernel
theorem d_M_seal_56 : decode b_M_seal 56 = .ok (.sipush 2473, 3) := by decide +kernel
theorem d_M_seal_59 : decode b_M_seal 59 = .ok (.invokestatic 131, 3) := by decide +kernel
theorem d_M_seal_62 : decode b_M_seal 62 = .ok (.ireturn, 1) := by decide +kernel
theorem d_M_blocks_0 : decode b_M_blocks 0 = .ok (.aload_n 0, 1) := by decide +kernel
theorem d_M_blocks_1 : decode b_M_blocks 1 = .ok (.getfield 106, 3) := by decide +kernel
theorem d_M_blocks_4 : decode b_M_blocks 4 = .ok (.ireturn, 1) := by decide +kernel
theorem d_M_pool_0 : decode b_M_pool 0 = .ok (.iconst 0, 1) := by decide +kernel
theorem d_M_pool_1 : decode b_M_pool 1 = .ok (.istore_n 1, 1) := by decide +kernel
theorem d_M_pool_2 : decode b_M_pool 2 = .ok (.iconst 0, 1) := by decide +kernel
theorem d_M_pool_3 : decode b_M_pool 3 = .ok (.istore_n 2, 1) := by decide +kernel
theorem d_M_pool_4 : decode b_M_pool 4 = .ok (.iload_n 2, 1) := by decide +kernel
theorem d_M_pool_5 : decode b_M_pool 5 = .ok (.aload_n 0, 1) := by decide +kernel
theorem d_M_pool_6 : decode b_M_pool 6 = .ok (.getfield 106, 3) := by decide +kernel
theorem d_M_pool_9 : decode b_M_pool 9 = .ok (.if_icmp .ge 18, 3) := by decide +kernel
theorem d_M_pool_12 : decode b_M_pool 12 = .ok (.iload_n 1, 1) := by decide +kernel
theorem d_M_pool_13 : decode b_M_pool 13 = .ok (.aload_n 0, 1) := by decide +kernel
theorem d_M_pool_14 : decode b_M_pool 14 = .ok (.getfield 70, 3) := by decide +kernel
theorem d_M_pool_17 : decode b_M_pool 17 = .ok (.iload_n 2, 1) := by decide +kernel
theorem d_M_pool_18 : decode b_M_pool 18 = .ok (.iaload, 1) := by decide +kernel
theorem d_M_pool_19 : decode b_M_pool 19 = .ok (.isub, 1) := by decide +kernel
theorem d_M_pool_20 : decode b_M_pool 20 = .ok (.istore_n 1, 1) := by decide +kernel
theorem d_M_pool_21 : decode b_M_pool 21 = .ok (.iinc 2 1, 3) := by decide +kernel
theorem d_M_pool_24 : decode b_M_pool 24 = .ok (.goto (-20), 3) := by decide +kernel
theorem d_M_pool_27 : decode b_M_pool 27 = .ok (.iload_n 1, 1) := by decide +kernel
theorem d_M_pool_28 : decode b_M_pool 28 = .ok (.ireturn, 1) := by decide +kernel
theorem d_M_revealed_0 : decode b_M_revealed 0 = .ok (.iconst 0, 1) := by decide +kernel
theorem d_M_revealed_1 : decode b_M_revealed 1 = .ok (.istore_n 2, 1) := by decide +kernel
theorem d_M_revealed_2 : decode b_M_revealed 2 = .ok (.iconst 0, 1) := by decide +kernel
theorem d_M_revealed_3 : decode b_M_revealed 3 = .ok (.istore_n 3, 1) := by decide +kernel
theorem d_M_revealed_4 : decode b_M_revealed 4 = .ok (.iload_n 3, 1) := by decide +kernel
theorem d_M_revealed_5 : decode b_M_revealed 5 = .ok (.iconst 2, 1) := by decide +kernel
theorem d_M_revealed_6 : decode b_M_revealed 6 = .ok (.aload_n 0, 1) := by decide +kernel
theorem d_M_revealed_7 : decode b_M_revealed 7 = .ok (.getfield 106, 3) := by decide +kernel
theorem d_M_revealed_10 : decode b_M_revealed 10 = .ok (.imul, 1) := by decide +kernel
theorem d_M_revealed_11 : decode b_M_revealed 11 = .ok (.if_icmp .ge 33, 3) := by decide +kernel
theorem d_M_revealed_14 : decode b_M_revealed 14 = .ok (.iload_n 2, 1) := by decide +kernel
theorem d_M_revealed_15 : decode b_M_revealed 15 = .ok (.ifCond .ne 17, 3) := by decide +kernel
theorem d_M_revealed_18 : decode b_M_revealed 18 = .ok (.iload_n 1, 1) := by decide +kernel
theorem d_M_revealed_19 : decode b_M_revealed 19 = .ok (.ifCond .lt 17, 3) := by decide +kernel
theorem d_M_revealed_22 : decode b_M_revealed 22 = .ok (.aload_n 0, 1) := by decide +kernel
theorem d_M_revealed_23 : decode b_M_revealed 23 = .ok (.getfield 73, 3) := by decide +kernel
theorem d_M_revealed_26 : decode b_M_revealed 26 = .ok (.iload_n 3, 1) := by decide +kernel
theorem d_M_revealed_27 : decode b_M_revealed 27 = .ok (.iaload, 1) := by decide +kernel
theorem d_M_revealed_28 : decode b_M_revealed 28 = .ok (.iload_n 1, 1) := by decide +kernel
theorem d_M_revealed_29 : decode b_M_revealed 29 = .ok (.if_icmp .ne 7, 3) := by decide +kernel
theorem d_M_revealed_32 : decode b_M_revealed 32 = .ok (.iconst 1, 1) := by decide +kernel
theorem d_M_revealed_33 : decode b_M_revealed 33 = .ok (.goto 4, 3) := by decide +kernel
theorem d_M_revealed_36 : decode b_M_revealed 36 = .ok (.iconst 0, 1) := by decide +kernel
theorem d_M_revealed_37 : decode b_M_revealed 37 = .ok (.istore_n 2, 1) := by decide +kernel
theorem d_M_revealed_38 : decode b_M_revealed 38 = .ok (.iinc 3 1, 3) := by decide +kernel
theorem d_M_revealed_41 : decode b_M_revealed 41 = .ok (.goto (-37), 3) := by decide +kernel
theorem d_M_revealed_44 : decode b_M_revealed 44 = .ok (.iload_n 2, 1) := by decide +kernel
theorem d_M_revealed_45 : decode b_M_revealed 45 = .ok (.ireturn, 1) := by decide +kernel
theorem d_M_covers_0 : decode b_M_covers 0 = .ok (.iconst 0, 1) := by decide +kernel
theorem d_M_covers_1 : decode b_M_covers 1 = .ok (.istore_n 1, 1) := by decide +kernel
theorem d_M_covers_2 : decode b_M_covers 2 = .ok (.iconst 0, 1) := by decide +kernel
theorem d_M_covers_3 : decode b_M_covers 3 = .ok (.istore_n 2, 1) := by decide +kernel
theorem d_M_covers_4 : decode b_M_covers 4 = .ok (.iload_n 2, 1) := by decide +kernel
theorem d_M_covers_5 : decode b_M_covers 5 = .ok (.aload_n 0, 1) := by decide +kernel
theorem d_M_covers_6 : decode b_M_covers 6 = .ok (.getfield 153, 3) := by decide +kernel
theorem d_M_covers_9 : decode b_M_covers 9 = .ok (.if_icmp .ge 27, 3) := by decide +kernel
theorem d_M_covers_12 : decode b_M_covers 12 = .ok (.iload_n 1, 1) := by decide +kernel
theorem d_M_covers_13 : decode b_M_covers 13 = .ok (.aload_n 0, 1) := by decide +kernel
theorem d_M_covers_14 : decode b_M_covers 14 = .ok (.getfield 25, 3) := by decide +kernel
theorem d_M_covers_17 : decode b_M_covers 17 = .ok (.iload_n 2, 1) := by decide +kernel
theorem d_M_covers_18 : decode b_M_covers 18 = .ok (.iaload, 1) := by decide +kernel
theorem d_M_covers_19 : decode b_M_covers 19 = .ok (.aload_n 0, 1) := by decide +kernel
theorem d_M_covers_20 : decode b_M_covers 20 = .ok (.getfield 31, 3) := by decide +kernel
theorem d_M_covers_23 : decode b_M_covers 23 = .ok (.iload_n 2, 1) := by decide +kernel
theorem d_M_covers_24 : decode b_M_covers 24 = .ok (.iaload, 1) := by decide +kernel
theorem d_M_covers_25 : decode b_M_covers 25 = .ok (.invokestatic 171, 3) := by decide +kernel
theorem d_M_covers_28 : decode b_M_covers 28 = .ok (.iadd, 1) := by decide +kernel
theorem d_M_covers_29 : decode b_M_covers 29 = .ok (.istore_n 1, 1) := by decide +kernel
theorem d_M_covers_30 : decode b_M_covers 30 = .ok (.iinc 2 1, 3) := by decide +kernel
theorem d_M_covers_33 : decode b_M_covers 33 = .ok (.goto (-29), 3) := by decide +kernel
theorem d_M_covers_36 : decode b_M_covers 36 = .ok (.iconst 0, 1) := by decide +kernel
theorem d_M_covers_37 : decode b_M_covers 37 = .ok (.istore_n 2, 1) := by decide +kernel
theorem d_M_covers_38 : decode b_M_covers 38 = .ok (.iload_n 2, 1) := by decide +kernel
theorem d_M_covers_39 : decode b_M_covers 39 = .ok (.aload_n 0, 1) := by decide +kernel
theorem d_M_covers_40 : decode b_M_covers 40 = .ok (.getfield 156, 3) := by decide +kernel
theorem d_M_covers_43 : decode b_M_covers 43 = .ok (.if_icmp .ge 27, 3) := by decide +kernel
theorem d_M_covers_46 : decode b_M_covers 46 = .ok (.iload_n 1, 1) := by decide +kernel
theorem d_M_covers_47 : decode b_M_covers 47 = .ok (.aload_n 0, 1) := by decide +kernel
theorem d_M_covers_48 : decode b_M_covers 48 = .ok (.getfield 46, 3) := by decide +kernel
theorem d_M_covers_51 : decode b_M_covers 51 = .ok (.iload_n 2, 1) := by decide +kernel
theorem d_M_covers_52 : decode b_M_covers 52 = .ok (.iaload, 1) := by decide +kernel
theorem d_M_covers_53 : decode b_M_covers 53 = .ok (.aload_n 0, 1) := by decide +kernel
theorem d_M_covers_54 : decode b_M_covers 54 = .ok (.getfield 52, 3) := by decide +kernel
theorem d_M_covers_57 : decode b_M_covers 57 = .ok (.iload_n 2, 1) := by decide +kernel
theorem d_M_covers_58 : decode b_M_covers 58 = .ok (.iaload, 1) := by decide +kernel
theorem d_M_covers_59 : decode b_M_covers 59 = .ok (.invokestatic 171, 3) := by decide +kernel
theorem d_M_covers_62 : decode b_M_covers 62 = .ok (.isub, 1) := by decide +kernel
theorem d_M_covers_63 : decode b_M_covers 63 = .ok (.istore_n 1, 1) := by decide +kernel
theorem d_M_covers_64 : decode b_M_covers 64 = .ok (.iinc 2 1, 3) := by decide +kernel
theorem d_M_covers_67 : decode b_M_covers 67 = .ok (.goto (-29), 3) := by decide +kernel
theorem d_M_covers_70 : decode b_M_covers 70 = .ok (.iload_n 1, 1) := by decide +kernel
theorem d_M_covers_71 : decode b_M_covers 71 = .ok (.aload_n 0, 1) := by decide +kernel
theorem d_M_covers_72 : decode b_M_covers 72 = .ok (.getfield 159, 3) := by decide +kernel
theorem d_M_covers_75 : decode b_M_covers 75 = .ok (.sipush 1281, 3) := by decide +kernel
theorem d_M_covers_78 : decode b_M_covers 78 = .ok (.imul, 1) := by decide +kernel
theorem d_M_covers_79 : decode b_M_covers 79 = .ok (.isub, 1) := by decide +kernel
theorem d_M_covers_80 : decode b_M_covers 80 = .ok (.sipush 2473, 3) := by decide +kernel
theorem d_M_covers_83 : decode b_M_covers 83 = .ok (.invokestatic 131, 3) := by decide +kernel
theorem d_M_covers_86 : decode b_M_covers 86 = .ok (.ireturn, 1) := by decide +kernel
theorem d_M_disconnect_0 : decode b_M_disconnect 0 = .ok (.aload_n 0, 1) := by decide +kernel
theorem d_M_disconnect_1 : decode b_M_disconnect 1 = .ok (.getfield 106, 3) := by decide +kernel
theorem d_M_disconnect_4 : decode b_M_disconnect 4 = .ok (.ifCond .ne 5, 3) := by decide +kernel
theorem d_M_disconnect_7 : decode b_M_disconnect 7 = .ok (.iconst (-1), 1) := by decide +kernel
theorem d_M_disconnect_8 : decode b_M_disconnect 8 = .ok (.ireturn, 1) := by decide +kernel
theorem d_M_disconnect_9 : decode b_M_disconnect 9 = .ok (.aload_n 0, 1) := by decide +kernel
theorem d_M_disconnect_10 : decode b_M_disconnect 10 = .ok (.dup, 1) := by decide +kernel
theorem d_M_disconnect_11 : decode b_M_disconnect 11 = .ok (.getfield 106, 3) := by decide +kernel
theorem d_M_disconnect_14 : decode b_M_disconnect 14 = .ok (.iconst 1, 1) := by decide +kernel
theorem d_M_disconnect_15 : decode b_M_disconnect 15 = .ok (.isub, 1) := by decide +kernel
theorem d_M_disconnect_16 : decode b_M_disconnect 16 = .ok (.putfield 106, 3) := by decide +kernel
theorem d_M_disconnect_19 : decode b_M_disconnect 19 = .ok (.aload_n 0, 1) := by decide +kernel
theorem d_M_disconnect_20 : decode b_M_disconnect 20 = .ok (.getfield 106, 3) := by decide +kernel
theorem d_M_disconnect_23 : decode b_M_disconnect 23 = .ok (.ireturn, 1) := by decide +kernel

set_option maxHeartbeats 4000000 in
set_option maxRecDepth 100000 in
theorem c_M_leaves (l : Launch) (G : yG) (z : Nat) (τ : yM) (nb : Nat) (hnbr : nb ≤ 12) (hnb : τ 0 24 = (nb : Int)) : Met l y_M_leaves (Cond.code y_M_leaves b_M_leaves 1 (some .int) :: yT) ({ frames := 0, cells := 0, slots := 0, locals := 0 } : Room) (yP ycl G yLM 0 28 z τ (yK G) [.ref (z + 0)]) (yQi (if nb = 0 then 0 else τ 20 (nb - 1))) 0 0 yN := by
  refine y_met (by decide +kernel) (Nat.le_of_ble_eq_true rfl) ?_
  intro p e s m below meth c ls hx hb hr hml hlocks hown hname hts hv hl
  have hA : ∀ w ∈ yT, w.before _ s = true := fun w h => hts w (List.mem_cons_of_mem _ h)
  have hl : lv_has ls 1 [(0, .ref (z + 0))] := hl
  obtain ⟨hW, hK⟩ := hv
  have hS : va_S yN s.heap s.heap [] := va_S.rf
  refine lv_aload_n hx hb d_M_leaves_0 rfl (lv_at hl 0 rfl) ?_
  refine y_geti hx hb hA in_M hown hK.1 hW 0 (by omega) laym_0 rfl 24 (by decide) (hA _ k_fl_M_106) rfl d_M_leaves_1 ?_
  rw [hnb]
  refine y_if_ne (tgt := 11) hx hb d_M_leaves_4 (by decide) ⟨by omega, by omega⟩ (fun hc1 => ?_) (fun hc1 => ?_)
  · skip
    refine lv_aload_n hx hb d_M_leaves_11 rfl (lv_at hl 0 rfl) ?_
    refine y_getr hx hb hA in_M hown hK.1 hW 0 (by omega) laym_0 rfl 25 (by decide) (hA _ k_fl_M_67) rfl d_M_leaves_12 ?_
    refine lv_aload_n hx hb d_M_leaves_15 rfl (lv_at hl 0 rfl) ?_
    refine y_geti hx hb hA in_M hown hK.1 hW 0 (by omega) laym_0 rfl 24 (by decide) (hA _ k_fl_M_106) rfl d_M_leaves_16 ?_
    rw [hnb]
    refine lv_iconst (v := J (1)) hx hb d_M_leaves_19 rfl ?_
    refine y_isub hx hb d_M_leaves_20 ?_
    refine y_iald hx hb hK.1 hW 20 (by omega) laym_20 rfl (by decide) (nb - 1) (by omega) (by omega) d_M_leaves_21 ?_
    exact y_reti hx hb hr hlocks hS (if_neg (by omega)).symm d_M_leaves_22
  · skip
    refine lv_iconst (v := J (0)) hx hb d_M_leaves_7 rfl ?_
    refine lv_goto (tgt := 22) hx hb d_M_leaves_8 (by decide) ?_
    exact y_reti hx hb hr hlocks hS (if_pos (by omega)).symm d_M_leaves_22

set_option maxHeartbeats 4000000 in
set_option maxRecDepth 100000 in
theorem c_M_isKey (l : Launch) (G : yG) (z : Nat) (τ : yM) (nk : Nat) (hnk : nk ≤ 4) (hk0 : τ 0 2 = (nk : Int)) (k : Int) (hk9 : jr k) : Met l y_M_isKey (Cond.code y_M_isKey b_M_isKey 2 (some .boolean) :: yT) ({ frames := 1, cells := 0, slots := 0, locals := 22 } : Room) (yP ycl G yLM 0 28 z τ (yK G) [.ref (z + 0), .int (J (k))]) (yQi (if 0 ≤ k ∧ k ≤ (nk : Int) - 1 then 1 else 0)) 0 0 yN := by
  refine y_met (by decide +kernel) (Nat.le_of_ble_eq_true rfl) ?_
  intro p e s m below meth c ls hx hb hr hml hlocks hown hname hts hv hl
  have hA : ∀ w ∈ yT, w.before _ s = true := fun w h => hts w (List.mem_cons_of_mem _ h)
  have hl : lv_has ls 2 [(0, .ref (z + 0)), (1, .int (J (k)))] := hl
  obtain ⟨hW, hK⟩ := hv
  have hS : va_S yN s.heap s.heap [] := va_S.rf
  refine lv_iload_n hx hb d_M_isKey_0 rfl (lv_at hl 1 rfl) ?_
  refine lv_iconst (v := J (0)) hx hb d_M_isKey_1 rfl ?_
  refine lv_aload_n hx hb d_M_isKey_2 rfl (lv_at hl 0 rfl) ?_
  refine y_geti hx hb hA in_M hown hK.1 hW 0 (by omega) laym_0 rfl 2 (by decide) (hA _ k_fl_M_121) rfl d_M_isKey_3 ?_
  rw [hk0]
  refine lv_iconst (v := J (1)) hx hb d_M_isKey_6 rfl ?_
  refine y_isub hx hb d_M_isKey_7 ?_
  refine y_ci (y_runS (As := [.int (J (k)), .int (J (0)), .int (J ((nk : Int) - 1))]) (rest := []) ⟨hx, hb, hml, hown, hts⟩ (c_M_in l G (k) (0) ((nk : Int) - 1) hk9 ⟨by omega, by omega⟩ ⟨by omega, by omega⟩) 3 k_co_M_in k_ml_M_110 k_st_M_in k_in_M rfl rfl (by decide +kernel) ⟨Nat.le_of_ble_eq_true rfl, Nat.le_of_ble_eq_true rfl⟩ (yPs0 (yK_bl G) (yK_mv G) hK) rfl hl.1 rfl (Nat.le_of_ble_eq_true rfl) d_M_isKey_8 ⟨Nat.zero_le _, Nat.zero_le _⟩) hS hW (fun H locs hW hS => ?_)
  exact y_retz hx hb hr hlocks hS (by split <;> omega) rfl d_M_isKey_11

set_option maxHeartbeats 4000000 in
set_option maxRecDepth 100000 in
theorem c_M_key (l : Launch) (G : yG) (z : Nat) (τ : yM) (nk : Nat) (hnk : nk ≤ 4) (hk0 : τ 0 2 = (nk : Int)) (s9 : Int) (hs9 : jr s9) : Met l y_M_key (Cond.code y_M_key b_M_key 2 (some .int) :: yT) ({ frames := 1, cells := 0, slots := 0, locals := 22 } : Room) (yP ycl G yLM 0 28 z τ (yK G) [.ref (z + 0), .int (J (s9))]) (yQg ycl G yLM 0 28 z (fun v ρ => ((nk ≠ 4 ∧ 1 ≤ s9 ∧ s9 ≤ 2472) → v = (nk : Int) ∧ ρ = y2 (y2 τ 3 nk s9) 0 2 ((nk : Int) + 1)) ∧ (¬ (nk ≠ 4 ∧ 1 ≤ s9 ∧ s9 ≤ 2472) → v = -1 ∧ ρ = τ))) 0 0 (yA z 0 28) := by
  refine y_met (by decide +kernel) (Nat.le_of_ble_eq_true rfl) ?_
  intro p e s m below meth c ls hx hb hr hml hlocks hown hname hts hv hl
  have hA : ∀ w ∈ yT, w.before _ s = true := fun w h => hts w (List.mem_cons_of_mem _ h)
  have hl : lv_has ls 2 [(0, .ref (z + 0)), (1, .int (J (s9)))] := hl
  obtain ⟨hW, hK⟩ := hv
  have hS : va_S (yA z 0 28) s.heap s.heap [] := va_S.rf
  have hAr : ∀ d, 0 ≤ d ∧ d < 0 + 28 → yA z 0 28 (z + d) := yA_all
  refine lv_aload_n hx hb d_M_key_0 rfl (lv_at hl 0 rfl) ?_
  refine y_geti hx hb hA in_M hown hK.1 hW 0 (by omega) laym_0 rfl 2 (by decide) (hA _ k_fl_M_121) rfl d_M_key_1 ?_
  rw [hk0]
  refine lv_iconst (v := J (4)) hx hb d_M_key_4 rfl ?_
  refine y_icmp_eq (tgt := 19) hx hb d_M_key_5 (by decide) ⟨by omega, by omega⟩ ⟨by omega, by omega⟩ (fun hc1 => ?_) (fun hc1 => ?_)
  · skip
    refine lv_iconst (v := J (-1)) hx hb d_M_key_19 rfl ?_
    exact y_retg hx hb hr hlocks hS hW ⟨fun h => absurd h (by omega), fun _ => ⟨rfl, rfl⟩⟩ d_M_key_20
  · skip
    refine lv_iload_n hx hb d_M_key_8 rfl (lv_at hl 1 rfl) ?_
    refine lv_iconst (v := J (1)) hx hb d_M_key_9 rfl ?_
    refine lv_sipush (v := J (2472)) hx hb d_M_key_10 (by decide) ?_
    refine y_ci (y_runS (As := [.int (J (s9)), .int (J (1)), .int (J (2472))]) (rest := []) ⟨hx, hb, hml, hown, hts⟩ (c_M_in l G (s9) (1) (2472) hs9 ⟨by omega, by omega⟩ ⟨by omega, by omega⟩) 3 k_co_M_in k_ml_M_110 k_st_M_in k_in_M rfl rfl (by decide +kernel) ⟨Nat.le_of_ble_eq_true rfl, Nat.le_of_ble_eq_true rfl⟩ (yPs0 (yK_bl G) (yK_mv G) hK) rfl hl.1 rfl (Nat.le_of_ble_eq_true rfl) d_M_key_13 ⟨Nat.zero_le _, Nat.zero_le _⟩) hS hW (fun H locs hW hS => ?_)
    by_cases hq13 : 1 ≤ s9 ∧ s9 ≤ 2472
    · skip
      rw [show (if 1 ≤ s9 ∧ s9 ≤ 2472 then (1 : Int) else 0) = 1 from if_pos hq13]
      refine y_if_ne (tgt := 21) hx hb d_M_key_16 (by decide) ⟨by omega, by omega⟩ (fun hc2 => ?_) (fun hc2 => absurd hc2 (by decide))
      refine lv_aload_n hx hb d_M_key_21 rfl (lv_at hl 0 rfl) ?_
      refine y_getr hx hb hA in_M hown hK.1 hW 0 (by omega) laym_0 rfl 3 (by decide) (hA _ k_fl_M_16) rfl d_M_key_22 ?_
      refine lv_aload_n hx hb d_M_key_25 rfl (lv_at hl 0 rfl) ?_
      refine y_geti hx hb hA in_M hown hK.1 hW 0 (by omega) laym_0 rfl 2 (by decide) (hA _ k_fl_M_121) rfl d_M_key_26 ?_
      rw [hk0]
      refine lv_iload_n hx hb d_M_key_29 rfl (lv_at hl 1 rfl) ?_
      refine y_iast hx hb hK.1 hW 3 (by omega) laym_3 rfl (by decide) hS hAr nk rfl (by omega) d_M_key_30 (fun H locs hW hS => ?_)
      refine lv_aload_n hx hb d_M_key_31 rfl (lv_at hl 0 rfl) ?_
      refine lv_dup hx hb d_M_key_32 rfl ?_
      refine y_geti hx hb hA in_M hown hK.1 hW 0 (by omega) laym_0 rfl 2 (by decide) (hA _ k_fl_M_121) rfl d_M_key_33 ?_
      rw [y2_cl (show 0 ≠ 3 by omega)]
      rw [hk0]
      refine lv_iconst (v := J (1)) hx hb d_M_key_36 rfl ?_
      refine y_iadd hx hb d_M_key_37 ?_
      refine y_puti hx hb hA in_M hown hK.1 hW 0 (by omega) laym_0 rfl 2 (by decide) t_M tk_M nm_M hS hAr (hA _ k_fl_M_121) rfl (by decide +kernel) rfl d_M_key_38 (fun H locs hW hS => ?_)
      refine lv_aload_n hx hb d_M_key_41 rfl (lv_at hl 0 rfl) ?_
      refine y_geti hx hb hA in_M hown hK.1 hW 0 (by omega) laym_0 rfl 2 (by decide) (hA _ k_fl_M_121) rfl d_M_key_42 ?_
      rw [y2_at]
      refine lv_iconst (v := J (1)) hx hb d_M_key_45 rfl ?_
      refine y_isub hx hb d_M_key_46 ?_
      exact y_retg hx hb hr hlocks hS hW ⟨fun _ => ⟨by omega, rfl⟩, fun h => absurd ⟨by omega, by omega, by omega⟩ h⟩ d_M_key_47
    · skip
      rw [show (if 1 ≤ s9 ∧ s9 ≤ 2472 then (1 : Int) else 0) = 0 from if_neg hq13]
      refine y_if_ne (tgt := 21) hx hb d_M_key_16 (by decide) ⟨by omega, by omega⟩ (fun hc3 => absurd hc3 (by decide)) (fun hc3 => ?_)
      refine lv_iconst (v := J (-1)) hx hb d_M_key_19 rfl ?_
      exact y_retg hx hb hr hlocks hS hW ⟨fun h => absurd h (by omega), fun _ => ⟨rfl, rfl⟩⟩ d_M_key_20

set_option maxHeartbeats 4000000 in
set_option maxRecDepth 100000 in
theorem c_M_address (l : Launch) (G : yG) (z : Nat) (τ : yM) (hTb : mTb τ) (nk : Nat) (hnk : nk ≤ 4) (hk0 : τ 0 2 = (nk : Int)) (hsec : ∀ k, k < nk → 1 ≤ τ 3 k ∧ τ 3 k ≤ 2472) (k c9 : Int) (hk9 : jr k) (hc9 : jr c9) : Met l y_M_address (Cond.code y_M_address b_M_address 3 (some .int) :: yT) ({ frames := 2, cells := 0, slots := 0, locals := 43 } : Room) (yP ycl G yLM 0 28 z τ (yK G) [.ref (z + 0), .int (J (k)), .int (J (c9))]) (yQi (if (0 ≤ k ∧ k < (nk : Int)) ∧ 0 ≤ c9 ∧ c9 ≤ 1 then (if c9 = 0 then eX (τ 3 k.toNat) else eY (τ 3 k.toNat)) else -1)) 0 0 yN := by
  refine y_met (by decide +kernel) (Nat.le_of_ble_eq_true rfl) ?_
  intro p e s m below meth c ls hx hb hr hml hlocks hown hname hts hv hl
  have hA : ∀ w ∈ yT, w.before _ s = true := fun w h => hts w (List.mem_cons_of_mem _ h)
  have hl : lv_has ls 3 [(0, .ref (z + 0)), (1, .int (J (k))), (2, .int (J (c9)))] := hl
  obtain ⟨hW, hK⟩ := hv
  have hS : va_S yN s.heap s.heap [] := va_S.rf
  refine lv_aload_n hx hb d_M_address_0 rfl (lv_at hl 0 rfl) ?_
  refine lv_iload_n hx hb d_M_address_1 rfl (lv_at hl 1 rfl) ?_
  refine y_ci (y_runV (As := [.int (J (k))]) (rest := []) ⟨hx, hb, hml, hown, hts⟩ (c_M_isKey l G z τ nk hnk hk0 (k) hk9) 1 k_co_M_isKey k_ml_M_124 k_im_M_isKey k_se_M_isKey k_in_M rfl rfl (by decide +kernel) ⟨Nat.le_of_ble_eq_true rfl, Nat.le_of_ble_eq_true rfl⟩ (yPv (yK_bl G) (yK_mv G) hK hK.1 hW (by omega) laym_0 rfl (by omega) (by omega)) rfl hl.1 rfl (Nat.le_of_ble_eq_true rfl) d_M_address_2 ⟨Nat.zero_le _, Nat.zero_le _⟩) hS hW (fun H locs hW hS => ?_)
  by_cases hq2 : 0 ≤ k ∧ k ≤ (nk : Int) - 1
  · skip
    rw [show (if 0 ≤ k ∧ k ≤ (nk : Int) - 1 then (1 : Int) else 0) = 1 from if_pos hq2]
    refine y_if_eq (tgt := 17) hx hb d_M_address_5 (by decide) ⟨by omega, by omega⟩ (fun hc1 => absurd hc1 (by decide)) (fun hc1 => ?_)
    refine lv_iload_n hx hb d_M_address_8 rfl (lv_at hl 2 rfl) ?_
    refine lv_iconst (v := J (0)) hx hb d_M_address_9 rfl ?_
    refine lv_iconst (v := J (1)) hx hb d_M_address_10 rfl ?_
    refine y_ci (y_runS (As := [.int (J (c9)), .int (J (0)), .int (J (1))]) (rest := []) ⟨hx, hb, hml, hown, hts⟩ (c_M_in l G (c9) (0) (1) hc9 ⟨by omega, by omega⟩ ⟨by omega, by omega⟩) 3 k_co_M_in k_ml_M_110 k_st_M_in k_in_M rfl rfl (by decide +kernel) ⟨Nat.le_of_ble_eq_true rfl, Nat.le_of_ble_eq_true rfl⟩ (yPs0 (yK_bl G) (yK_mv G) hK) rfl hl.1 rfl (Nat.le_of_ble_eq_true rfl) d_M_address_11 ⟨Nat.zero_le _, Nat.zero_le _⟩) hS hW (fun H locs hW hS => ?_)
    by_cases hq11 : 0 ≤ c9 ∧ c9 ≤ 1
    · skip
      rw [show (if 0 ≤ c9 ∧ c9 ≤ 1 then (1 : Int) else 0) = 1 from if_pos hq11]
      refine y_if_ne (tgt := 19) hx hb d_M_address_14 (by decide) ⟨by omega, by omega⟩ (fun hc2 => ?_) (fun hc2 => absurd hc2 (by decide))
      obtain ⟨kn, e_kn⟩ : ∃ q : Nat, k = (q : Int) := ⟨(k).toNat, by omega⟩
      have hsr := hsec kn (by omega)
      obtain ⟨m9, e_m9⟩ : ∃ q : Nat, (q : Int) = τ 3 kn % 2473 := ⟨(τ 3 kn % 2473).toNat, by omega⟩
      refine lv_iload_n hx hb d_M_address_19 rfl (lv_at hl 2 rfl) ?_
      refine y_if_ne (tgt := 37) hx hb d_M_address_20 (by decide) ⟨by omega, by omega⟩ (fun hc3 => ?_) (fun hc3 => ?_)
      · skip
        refine lv_aload_n hx hb d_M_address_37 rfl (lv_at hl 0 rfl) ?_
        refine y_getr hx hb hA in_M hown hK.1 hW 0 (by omega) laym_0 rfl 1 (by decide) (hA _ k_fl_M_13) rfl d_M_address_38 ?_
        refine lv_aload_n hx hb d_M_address_41 rfl (lv_at hl 0 rfl) ?_
        refine y_getr hx hb hA in_M hown hK.1 hW 0 (by omega) laym_0 rfl 3 (by decide) (hA _ k_fl_M_16) rfl d_M_address_42 ?_
        refine lv_iload_n hx hb d_M_address_45 rfl (lv_at hl 1 rfl) ?_
        refine y_iald hx hb hK.1 hW 3 (by omega) laym_3 rfl (by decide) kn (by omega) (by omega) d_M_address_46 ?_
        refine y_iald hx hb hK.1 hW 2 (by omega) laym_2 rfl (by decide) m9 (by omega) (by omega) d_M_address_47 ?_
        rw [mT_y hTb e_m9]
        exact y_reti hx hb hr hlocks hS ((if_pos (show (0 ≤ k ∧ k < (nk : Int)) ∧ 0 ≤ c9 ∧ c9 ≤ 1 by omega)).trans (by rw [show k.toNat = kn by omega]; exact if_neg (by omega))).symm d_M_address_48
      · skip
        refine lv_aload_n hx hb d_M_address_23 rfl (lv_at hl 0 rfl) ?_
        refine y_getr hx hb hA in_M hown hK.1 hW 0 (by omega) laym_0 rfl 0 (by decide) (hA _ k_fl_M_7) rfl d_M_address_24 ?_
        refine lv_aload_n hx hb d_M_address_27 rfl (lv_at hl 0 rfl) ?_
        refine y_getr hx hb hA in_M hown hK.1 hW 0 (by omega) laym_0 rfl 3 (by decide) (hA _ k_fl_M_16) rfl d_M_address_28 ?_
        refine lv_iload_n hx hb d_M_address_31 rfl (lv_at hl 1 rfl) ?_
        refine y_iald hx hb hK.1 hW 3 (by omega) laym_3 rfl (by decide) kn (by omega) (by omega) d_M_address_32 ?_
        refine y_iald hx hb hK.1 hW 1 (by omega) laym_1 rfl (by decide) m9 (by omega) (by omega) d_M_address_33 ?_
        rw [mT_x hTb e_m9]
        refine lv_goto (tgt := 48) hx hb d_M_address_34 (by decide) ?_
        exact y_reti hx hb hr hlocks hS ((if_pos (show (0 ≤ k ∧ k < (nk : Int)) ∧ 0 ≤ c9 ∧ c9 ≤ 1 by omega)).trans (by rw [show k.toNat = kn by omega]; exact if_pos (by omega))).symm d_M_address_48
    · skip
      rw [show (if 0 ≤ c9 ∧ c9 ≤ 1 then (1 : Int) else 0) = 0 from if_neg hq11]
      refine y_if_ne (tgt := 19) hx hb d_M_address_14 (by decide) ⟨by omega, by omega⟩ (fun hc4 => absurd hc4 (by decide)) (fun hc4 => ?_)
      refine lv_iconst (v := J (-1)) hx hb d_M_address_17 rfl ?_
      exact y_reti hx hb hr hlocks hS (if_neg (by omega)).symm d_M_address_18
  · skip
    rw [show (if 0 ≤ k ∧ k ≤ (nk : Int) - 1 then (1 : Int) else 0) = 0 from if_neg hq2]
    refine y_if_eq (tgt := 17) hx hb d_M_address_5 (by decide) ⟨by omega, by omega⟩ (fun hc5 => ?_) (fun hc5 => absurd hc5 (by decide))
    refine lv_iconst (v := J (-1)) hx hb d_M_address_17 rfl ?_
    exact y_reti hx hb hr hlocks hS (if_neg (by omega)).symm d_M_address_18

set_option maxHeartbeats 4000000 in
set_option maxRecDepth 100000 in
theorem c_M_clear (l : Launch) (G : yG) (z : Nat) (τ : yM) : Met l y_M_clear (Cond.code y_M_clear b_M_clear 1 (Option.none : Option Jvm.ClassFile.FieldType) :: yT) ({ frames := 0, cells := 0, slots := 0, locals := 0 } : Room) (yP ycl G yLM 0 28 z τ (yK G) [.ref (z + 0)]) (yQh ycl G yLM 0 28 z (fun ρ => ρ = y2 (y2 (y2 (y2 τ 0 4 0) 0 13 0) 0 22 0) 0 23 0)) 0 0 (yA z 0 28) := by
  refine y_met (by decide +kernel) (Nat.le_of_ble_eq_true rfl) ?_
  intro p e s m below meth c ls hx hb hr hml hlocks hown hname hts hv hl
  have hA : ∀ w ∈ yT, w.before _ s = true := fun w h => hts w (List.mem_cons_of_mem _ h)
  have hl : lv_has ls 1 [(0, .ref (z + 0))] := hl
  obtain ⟨hW, hK⟩ := hv
  have hS : va_S (yA z 0 28) s.heap s.heap [] := va_S.rf
  have hAr : ∀ d, 0 ≤ d ∧ d < 0 + 28 → yA z 0 28 (z + d) := yA_all
  refine lv_aload_n hx hb d_M_clear_0 rfl (lv_at hl 0 rfl) ?_
  refine lv_iconst (v := J (0)) hx hb d_M_clear_1 rfl ?_
  refine y_puti hx hb hA in_M hown hK.1 hW 0 (by omega) laym_0 rfl 4 (by decide) t_M tk_M nm_M hS hAr (hA _ k_fl_M_153) rfl (by decide +kernel) rfl d_M_clear_2 (fun H locs hW hS => ?_)
  refine lv_aload_n hx hb d_M_clear_5 rfl (lv_at hl 0 rfl) ?_
  refine lv_iconst (v := J (0)) hx hb d_M_clear_6 rfl ?_
  refine y_puti hx hb hA in_M hown hK.1 hW 0 (by omega) laym_0 rfl 13 (by decide) t_M tk_M nm_M hS hAr (hA _ k_fl_M_156) rfl (by decide +kernel) rfl d_M_clear_7 (fun H locs hW hS => ?_)
  refine lv_aload_n hx hb d_M_clear_10 rfl (lv_at hl 0 rfl) ?_
  refine lv_iconst (v := J (0)) hx hb d_M_clear_11 rfl ?_
  refine y_puti hx hb hA in_M hown hK.1 hW 0 (by omega) laym_0 rfl 22 (by decide) t_M tk_M nm_M hS hAr (hA _ k_fl_M_159) rfl (by decide +kernel) rfl d_M_clear_12 (fun H locs hW hS => ?_)
  refine lv_aload_n hx hb d_M_clear_15 rfl (lv_at hl 0 rfl) ?_
  refine lv_iconst (v := J (0)) hx hb d_M_clear_16 rfl ?_
  refine y_puti hx hb hA in_M hown hK.1 hW 0 (by omega) laym_0 rfl 23 (by decide) t_M tk_M nm_M hS hAr (hA _ k_fl_M_162) rfl (by decide +kernel) rfl d_M_clear_17 (fun H locs hW hS => ?_)
  exact y_reth hx hb hr hlocks hS hW rfl d_M_clear_20

set_option maxHeartbeats 4000000 in
set_option maxRecDepth 100000 in
theorem c_M_balance (l : Launch) (G : yG) (z : Nat) (τ : yM) (b : Int) (hb9 : jr b) : Met l y_M_balance (Cond.code y_M_balance b_M_balance 2 (some .boolean) :: yT) ({ frames := 1, cells := 0, slots := 0, locals := 22 } : Room) (yP ycl G yLM 0 28 z τ (yK G) [.ref (z + 0), .int (J (b))]) (yQg ycl G yLM 0 28 z (fun v ρ => (-9999 ≤ b ∧ b ≤ 9999 → v = 1 ∧ ρ = y2 τ 0 22 b) ∧ (¬ (-9999 ≤ b ∧ b ≤ 9999) → v = 0 ∧ ρ = τ))) 0 0 (yA z 0 28) := by
  refine y_met (by decide +kernel) (Nat.le_of_ble_eq_true rfl) ?_
  intro p e s m below meth c ls hx hb hr hml hlocks hown hname hts hv hl
  have hA : ∀ w ∈ yT, w.before _ s = true := fun w h => hts w (List.mem_cons_of_mem _ h)
  have hl : lv_has ls 2 [(0, .ref (z + 0)), (1, .int (J (b)))] := hl
  obtain ⟨hW, hK⟩ := hv
  have hS : va_S (yA z 0 28) s.heap s.heap [] := va_S.rf
  have hAr : ∀ d, 0 ≤ d ∧ d < 0 + 28 → yA z 0 28 (z + d) := yA_all
  refine lv_iload_n hx hb d_M_balance_0 rfl (lv_at hl 1 rfl) ?_
  refine lv_sipush (v := J (-9999)) hx hb d_M_balance_1 (by decide) ?_
  refine lv_sipush (v := J (9999)) hx hb d_M_balance_4 (by decide) ?_
  refine y_ci (y_runS (As := [.int (J (b)), .int (J (-9999)), .int (J (9999))]) (rest := []) ⟨hx, hb, hml, hown, hts⟩ (c_M_in l G (b) (-9999) (9999) hb9 ⟨by omega, by omega⟩ ⟨by omega, by omega⟩) 3 k_co_M_in k_ml_M_110 k_st_M_in k_in_M rfl rfl (by decide +kernel) ⟨Nat.le_of_ble_eq_true rfl, Nat.le_of_ble_eq_true rfl⟩ (yPs0 (yK_bl G) (yK_mv G) hK) rfl hl.1 rfl (Nat.le_of_ble_eq_true rfl) d_M_balance_7 ⟨Nat.zero_le _, Nat.zero_le _⟩) hS hW (fun H locs hW hS => ?_)
  by_cases hq7 : (-9999) ≤ b ∧ b ≤ 9999
  · skip
    rw [show (if (-9999) ≤ b ∧ b ≤ 9999 then (1 : Int) else 0) = 1 from if_pos hq7]
    refine y_if_ne (tgt := 15) hx hb d_M_balance_10 (by decide) ⟨by omega, by omega⟩ (fun hc1 => ?_) (fun hc1 => absurd hc1 (by decide))
    refine lv_aload_n hx hb d_M_balance_15 rfl (lv_at hl 0 rfl) ?_
    refine lv_iload_n hx hb d_M_balance_16 rfl (lv_at hl 1 rfl) ?_
    refine y_puti hx hb hA in_M hown hK.1 hW 0 (by omega) laym_0 rfl 22 (by decide) t_M tk_M nm_M hS hAr (hA _ k_fl_M_159) rfl (by decide +kernel) rfl d_M_balance_17 (fun H locs hW hS => ?_)
    refine lv_iconst (v := J (1)) hx hb d_M_balance_20 rfl ?_
    exact y_retgz hx hb hr hlocks hS hW (Or.inr rfl) ⟨fun _ => ⟨rfl, rfl⟩, fun h => absurd (by omega) h⟩ d_M_balance_21
  · skip
    rw [show (if (-9999) ≤ b ∧ b ≤ 9999 then (1 : Int) else 0) = 0 from if_neg hq7]
    refine y_if_ne (tgt := 15) hx hb d_M_balance_10 (by decide) ⟨by omega, by omega⟩ (fun hc2 => absurd hc2 (by decide)) (fun hc2 => ?_)
    refine lv_iconst (v := J (0)) hx hb d_M_balance_13 rfl ?_
    exact y_retgz hx hb hr hlocks hS hW (Or.inl rfl) ⟨fun h => absurd h (by omega), fun _ => ⟨rfl, rfl⟩⟩ d_M_balance_14

set_option maxHeartbeats 4000000 in
set_option maxRecDepth 100000 in
theorem c_M_blocks (l : Launch) (G : yG) (z : Nat) (τ : yM) : Met l y_M_blocks (Cond.code y_M_blocks b_M_blocks 1 (some .int) :: yT) ({ frames := 0, cells := 0, slots := 0, locals := 0 } : Room) (yP ycl G yLM 0 28 z τ (yK G) [.ref (z + 0)]) (yQi (τ 0 24)) 0 0 yN := by
  refine y_met (by decide +kernel) (Nat.le_of_ble_eq_true rfl) ?_
  intro p e s m below meth c ls hx hb hr hml hlocks hown hname hts hv hl
  have hA : ∀ w ∈ yT, w.before _ s = true := fun w h => hts w (List.mem_cons_of_mem _ h)
  have hl : lv_has ls 1 [(0, .ref (z + 0))] := hl
  obtain ⟨hW, hK⟩ := hv
  have hS : va_S yN s.heap s.heap [] := va_S.rf
  refine lv_aload_n hx hb d_M_blocks_0 rfl (lv_at hl 0 rfl) ?_
  refine y_geti hx hb hA in_M hown hK.1 hW 0 (by omega) laym_0 rfl 24 (by decide) (hA _ k_fl_M_106) rfl d_M_blocks_1 ?_
  exact y_reti hx hb hr hlocks hS rfl d_M_blocks_4

set_option maxHeartbeats 4000000 in
set_option maxRecDepth 100000 in
theorem c_M_disconnect (l : Launch) (G : yG) (z : Nat) (τ : yM) (nb : Nat) (hnbr : nb ≤ 12) (hnb : τ 0 24 = (nb : Int)) : Met l y_M_disconnect (Cond.code y_M_disconnect b_M_disconnect 1 (some .int) :: yT) ({ frames := 0, cells := 0, slots := 0, locals := 0 } : Room) (yP ycl G yLM 0 28 z τ (yK G) [.ref (z + 0)]) (yQg ycl G yLM 0 28 z (fun v ρ => (nb = 0 → v = -1 ∧ ρ = τ) ∧ (nb ≠ 0 → v = (nb : Int) - 1 ∧ ρ = y2 τ 0 24 ((nb : Int) - 1)))) 0 0 (yA z 0 28) := by
  refine y_met (by decide +kernel) (Nat.le_of_ble_eq_true rfl) ?_
  intro p e s m below meth c ls hx hb hr hml hlocks hown hname hts hv hl
  have hA : ∀ w ∈ yT, w.before _ s = true := fun w h => hts w (List.mem_cons_of_mem _ h)
  have hl : lv_has ls 1 [(0, .ref (z + 0))] := hl
  obtain ⟨hW, hK⟩ := hv
  have hS : va_S (yA z 0 28) s.heap s.heap [] := va_S.rf
  have hAr : ∀ d, 0 ≤ d ∧ d < 0 + 28 → yA z 0 28 (z + d) := yA_all
  refine lv_aload_n hx hb d_M_disconnect_0 rfl (lv_at hl 0 rfl) ?_
  refine y_geti hx hb hA in_M hown hK.1 hW 0 (by omega) laym_0 rfl 24 (by decide) (hA _ k_fl_M_106) rfl d_M_disconnect_1 ?_
  rw [hnb]
  refine y_if_ne (tgt := 9) hx hb d_M_disconnect_4 (by decide) ⟨by omega, by omega⟩ (fun hc1 => ?_) (fun hc1 => ?_)
  · skip
    refine lv_aload_n hx hb d_M_disconnect_9 rfl (lv_at hl 0 rfl) ?_
    refine lv_dup hx hb d_M_disconnect_10 rfl ?_
    refine y_geti hx hb hA in_M hown hK.1 hW 0 (by omega) laym_0 rfl 24 (by decide) (hA _ k_fl_M_106) rfl d_M_disconnect_11 ?_
    rw [hnb]
    refine lv_iconst (v := J (1)) hx hb d_M_disconnect_14 rfl ?_
    refine y_isub hx hb d_M_disconnect_15 ?_
    refine y_puti hx hb hA in_M hown hK.1 hW 0 (by omega) laym_0 rfl 24 (by decide) t_M tk_M nm_M hS hAr (hA _ k_fl_M_106) rfl (by decide +kernel) rfl d_M_disconnect_16 (fun H locs hW hS => ?_)
    refine lv_aload_n hx hb d_M_disconnect_19 rfl (lv_at hl 0 rfl) ?_
    refine y_geti hx hb hA in_M hown hK.1 hW 0 (by omega) laym_0 rfl 24 (by decide) (hA _ k_fl_M_106) rfl d_M_disconnect_20 ?_
    rw [y2_at]
    exact y_retg hx hb hr hlocks hS hW ⟨fun h => absurd h (by omega), fun _ => ⟨rfl, rfl⟩⟩ d_M_disconnect_23
  · skip
    refine lv_iconst (v := J (-1)) hx hb d_M_disconnect_7 rfl ?_
    exact y_retg hx hb hr hlocks hS hW ⟨fun _ => ⟨rfl, rfl⟩, fun h => absurd h (by omega)⟩ d_M_disconnect_8

set_option maxHeartbeats 4000000 in
set_option maxRecDepth 100000 in
theorem c_M_pool (l : Launch) (G : yG) (z : Nat) (τ : yM) (nb : Nat) (hnbr : nb ≤ 12) (hnb : τ 0 24 = (nb : Int)) : Met l y_M_pool (Cond.code y_M_pool b_M_pool 3 (some .int) :: yT) ({ frames := 0, cells := 0, slots := 0, locals := 0 } : Room) (yP ycl G yLM 0 28 z τ (yK G) [.ref (z + 0)]) (yQi (-(sm (τ 21) nb))) 0 0 yN := by
  refine y_met (by decide +kernel) (Nat.le_of_ble_eq_true rfl) ?_
  intro p e s m below meth c ls hx hb hr hml hlocks hown hname hts hv hl
  have hA : ∀ w ∈ yT, w.before _ s = true := fun w h => hts w (List.mem_cons_of_mem _ h)
  have hl : lv_has ls 3 [(0, .ref (z + 0))] := hl
  obtain ⟨hW, hK⟩ := hv
  have hS : va_S yN s.heap s.heap [] := va_S.rf
  refine lv_iconst (v := J (0)) hx hb d_M_pool_0 rfl ?_
  refine lv_istore_n (lv' := [(1, .int (J (0))), (0, .ref (z + 0))]) hx hb d_M_pool_1 rfl hl (by decide) rfl (fun ls hl => ?_)
  refine lv_iconst (v := J (0)) hx hb d_M_pool_2 rfl ?_
  refine lv_istore_n (lv' := [(2, .int (J (0))), (1, .int (J (0))), (0, .ref (z + 0))]) hx hb d_M_pool_3 rfl hl (by decide) rfl (fun ls hl => ?_)
  have loop4 : ∀ (q9 j : Nat), j + q9 = nb → ∀ (ls : Array Slot) (H : Heap) (locs : List Loc), yW ycl G yLM 0 28 z τ H → va_S yN s.heap H locs → lv_has ls 3 [(2, .int (J (((j : Nat) : Int)))), (1, .int (J (-(sm (τ 21) j)))), (0, .ref (z + 0))] → W p l e ({ frames := 0, cells := 0, slots := 0, locals := 0 } : Room) s m ([.ref (z + 0)] : List Value).toArray below meth c H locs 0 0 (MQ below (yQi (-(sm (τ 21) nb))) ([.ref (z + 0)] : List Value).toArray s 0 0 yN) (F0 m 4 ls []) := by
    intro q9
    induction q9 with
    | zero =>
      intro j hjk ls H locs hW hS hl
      have hjN : nb = j := by omega
      subst hjN
      refine lv_iload_n hx hb d_M_pool_4 rfl (lv_at hl 0 rfl) ?_
      refine lv_aload_n hx hb d_M_pool_5 rfl (lv_at hl 2 rfl) ?_
      refine y_geti hx hb hA in_M hown hK.1 hW 0 (by omega) laym_0 rfl 24 (by decide) (hA _ k_fl_M_106) rfl d_M_pool_6 ?_
      rw [hnb]
      refine y_icmp_ge (tgt := 27) hx hb d_M_pool_9 (by decide) ⟨by omega, by omega⟩ ⟨by omega, by omega⟩ (fun hc1 => ?_) (fun hc1 => absurd hc1 (by omega))
      refine lv_iload_n hx hb d_M_pool_27 rfl (lv_at hl 1 rfl) ?_
      exact y_reti hx hb hr hlocks hS rfl d_M_pool_28
    | succ q9 ih =>
      intro j hjk ls H locs hW hS hl
      refine lv_iload_n hx hb d_M_pool_4 rfl (lv_at hl 0 rfl) ?_
      refine lv_aload_n hx hb d_M_pool_5 rfl (lv_at hl 2 rfl) ?_
      refine y_geti hx hb hA in_M hown hK.1 hW 0 (by omega) laym_0 rfl 24 (by decide) (hA _ k_fl_M_106) rfl d_M_pool_6 ?_
      rw [hnb]
      refine y_icmp_ge (tgt := 27) hx hb d_M_pool_9 (by decide) ⟨by omega, by omega⟩ ⟨by omega, by omega⟩ (fun hc2 => absurd hc2 (by omega)) (fun hc2 => ?_)
      refine lv_iload_n hx hb d_M_pool_12 rfl (lv_at hl 1 rfl) ?_
      refine lv_aload_n hx hb d_M_pool_13 rfl (lv_at hl 2 rfl) ?_
      refine y_getr hx hb hA in_M hown hK.1 hW 0 (by omega) laym_0 rfl 26 (by decide) (hA _ k_fl_M_70) rfl d_M_pool_14 ?_
      refine lv_iload_n hx hb d_M_pool_17 rfl (lv_at hl 0 rfl) ?_
      refine y_iald hx hb hK.1 hW 21 (by omega) laym_21 rfl (by decide) j rfl (by omega) d_M_pool_18 ?_
      refine y_isub hx hb d_M_pool_19 ?_
      refine lv_istore_n (lv' := [(1, .int (J ((-(sm (τ 21) j)) - (τ 21 j)))), (2, .int (J (((j : Nat) : Int)))), (0, .ref (z + 0))]) hx hb d_M_pool_20 rfl hl (by decide) rfl (fun ls hl => ?_)
      refine lv_iinc (k := 1) (v := J (((j + 1 : Nat) : Int))) (lv' := [(2, .int (J (((j + 1 : Nat) : Int)))), (1, .int (J ((-(sm (τ 21) j)) - (τ 21 j)))), (0, .ref (z + 0))]) hx hb d_M_pool_21 hl rfl (by rw [Int.natCast_add j 1]; exact J_add _ _) (by decide) rfl (fun ls hl => ?_)
      refine lv_goto (tgt := 4) hx hb d_M_pool_24 (by decide) ?_
      refine ih (j + 1) (by omega) ls H locs hW hS ?_
      have e : -(sm (τ 21) (j + 1)) = -(sm (τ 21) j) - τ 21 j := by show -(sm (τ 21) j + τ 21 j) = _; omega
      rw [e]
      exact hl
  exact loop4 nb 0 (by omega) ls _ _ hW hS hl

set_option maxHeartbeats 4000000 in
set_option maxRecDepth 100000 in
theorem c_M_seal (l : Launch) (G : yG) (z : Nat) (τ : yM) (ns no : Nat) (hns : ns ≤ 2) (hno : no ≤ 2) (hs : τ 0 4 = (ns : Int)) (ho : τ 0 13 = (no : Int)) (ht : 0 ≤ τ 0 23 ∧ τ 0 23 < 2473) (hsw : ∀ j, j < ns → 0 ≤ τ 8 j ∧ τ 8 j ≤ 2472) (how : ∀ j, j < no → 0 ≤ τ 15 j ∧ τ 15 j ≤ 2472) : Met l y_M_seal (Cond.code y_M_seal b_M_seal 3 (some .int) :: yT) ({ frames := 1, cells := 0, slots := 0, locals := 21 } : Room) (yP ycl G yLM 0 28 z τ (yK G) [.ref (z + 0)]) (yQi ((τ 0 23 + sm (τ 8) ns - sm (τ 15) no) % 2473)) 0 0 yN := by
  refine y_met (by decide +kernel) (Nat.le_of_ble_eq_true rfl) ?_
  intro p e s m below meth c ls hx hb hr hml hlocks hown hname hts hv hl
  have hA : ∀ w ∈ yT, w.before _ s = true := fun w h => hts w (List.mem_cons_of_mem _ h)
  have hl : lv_has ls 3 [(0, .ref (z + 0))] := hl
  obtain ⟨hW, hK⟩ := hv
  have hS : va_S yN s.heap s.heap [] := va_S.rf
  have hb1 := sm_rng (f := τ 8) hsw ns (Nat.le_refl _)
  have hb2 := sm_rng (f := τ 15) how no (Nat.le_refl _)
  refine lv_aload_n hx hb d_M_seal_0 rfl (lv_at hl 0 rfl) ?_
  refine y_geti hx hb hA in_M hown hK.1 hW 0 (by omega) laym_0 rfl 23 (by decide) (hA _ k_fl_M_162) rfl d_M_seal_1 ?_
  refine lv_istore_n (lv' := [(1, .int (J (τ 0 23))), (0, .ref (z + 0))]) hx hb d_M_seal_4 rfl hl (by decide) rfl (fun ls hl => ?_)
  refine lv_iconst (v := J (0)) hx hb d_M_seal_5 rfl ?_
  refine lv_istore_n (lv' := [(2, .int (J (0))), (1, .int (J (τ 0 23))), (0, .ref (z + 0))]) hx hb d_M_seal_6 rfl hl (by decide) rfl (fun ls hl => ?_)
  have loop7 : ∀ (q9 j : Nat), j + q9 = ns → ∀ (ls : Array Slot) (H : Heap) (locs : List Loc), yW ycl G yLM 0 28 z τ H → va_S yN s.heap H locs → lv_has ls 3 [(2, .int (J (((j : Nat) : Int)))), (1, .int (J (τ 0 23 + sm (τ 8) j))), (0, .ref (z + 0))] → W p l e ({ frames := 1, cells := 0, slots := 0, locals := 21 } : Room) s m ([.ref (z + 0)] : List Value).toArray below meth c H locs 0 0 (MQ below (yQi ((τ 0 23 + sm (τ 8) ns - sm (τ 15) no) % 2473)) ([.ref (z + 0)] : List Value).toArray s 0 0 yN) (F0 m 7 ls []) := by
    intro q9
    induction q9 with
    | zero =>
      intro j hjk ls H locs hW hS hl
      have hjN : ns = j := by omega
      subst hjN
      refine lv_iload_n hx hb d_M_seal_7 rfl (lv_at hl 0 rfl) ?_
      refine lv_aload_n hx hb d_M_seal_8 rfl (lv_at hl 2 rfl) ?_
      refine y_geti hx hb hA in_M hown hK.1 hW 0 (by omega) laym_0 rfl 4 (by decide) (hA _ k_fl_M_153) rfl d_M_seal_9 ?_
      rw [hs]
      refine y_icmp_ge (tgt := 30) hx hb d_M_seal_12 (by decide) ⟨by omega, by omega⟩ ⟨by omega, by omega⟩ (fun hc1 => ?_) (fun hc1 => absurd hc1 (by omega))
      refine lv_iconst (v := J (0)) hx hb d_M_seal_30 rfl ?_
      refine lv_istore_n (lv' := [(2, .int (J (0))), (1, .int (J (τ 0 23 + sm (τ 8) ns))), (0, .ref (z + 0))]) hx hb d_M_seal_31 rfl hl (by decide) rfl (fun ls hl => ?_)
      have loop32 : ∀ (q9 j : Nat), j + q9 = no → ∀ (ls : Array Slot) (H : Heap) (locs : List Loc), yW ycl G yLM 0 28 z τ H → va_S yN s.heap H locs → lv_has ls 3 [(2, .int (J (((j : Nat) : Int)))), (1, .int (J (τ 0 23 + sm (τ 8) ns - sm (τ 15) j))), (0, .ref (z + 0))] → W p l e ({ frames := 1, cells := 0, slots := 0, locals := 21 } : Room) s m ([.ref (z + 0)] : List Value).toArray below meth c H locs 0 0 (MQ below (yQi ((τ 0 23 + sm (τ 8) ns - sm (τ 15) no) % 2473)) ([.ref (z + 0)] : List Value).toArray s 0 0 yN) (F0 m 32 ls []) := by
        intro q9
        induction q9 with
        | zero =>
          intro j hjk ls H locs hW hS hl
          have hjN : no = j := by omega
          subst hjN
          refine lv_iload_n hx hb d_M_seal_32 rfl (lv_at hl 0 rfl) ?_
          refine lv_aload_n hx hb d_M_seal_33 rfl (lv_at hl 2 rfl) ?_
          refine y_geti hx hb hA in_M hown hK.1 hW 0 (by omega) laym_0 rfl 13 (by decide) (hA _ k_fl_M_156) rfl d_M_seal_34 ?_
          rw [ho]
          refine y_icmp_ge (tgt := 55) hx hb d_M_seal_37 (by decide) ⟨by omega, by omega⟩ ⟨by omega, by omega⟩ (fun hc2 => ?_) (fun hc2 => absurd hc2 (by omega))
          refine lv_iload_n hx hb d_M_seal_55 rfl (lv_at hl 1 rfl) ?_
          refine lv_sipush (v := J (2473)) hx hb d_M_seal_56 (by decide) ?_
          refine y_ci (y_runS (As := [.int (J (τ 0 23 + sm (τ 8) ns - sm (τ 15) no)), .int (J (2473))]) (rest := []) ⟨hx, hb, hml, hown, hts⟩ (c_M_rest l G (τ 0 23 + sm (τ 8) ns - sm (τ 15) no) (2473) ⟨by omega, by omega⟩ ⟨by omega, by omega⟩) 2 k_co_M_rest k_ml_M_131 k_st_M_rest k_in_M rfl rfl (by decide +kernel) ⟨Nat.le_of_ble_eq_true rfl, Nat.le_of_ble_eq_true rfl⟩ (yPs0 (yK_bl G) (yK_mv G) hK) rfl hl.1 rfl (Nat.le_of_ble_eq_true rfl) d_M_seal_59 ⟨Nat.zero_le _, Nat.zero_le _⟩) hS hW (fun H locs hW hS => ?_)
          exact y_reti hx hb hr hlocks hS rfl d_M_seal_62
        | succ q9 ih =>
          intro j hjk ls H locs hW hS hl
          refine lv_iload_n hx hb d_M_seal_32 rfl (lv_at hl 0 rfl) ?_
          refine lv_aload_n hx hb d_M_seal_33 rfl (lv_at hl 2 rfl) ?_
          refine y_geti hx hb hA in_M hown hK.1 hW 0 (by omega) laym_0 rfl 13 (by decide) (hA _ k_fl_M_156) rfl d_M_seal_34 ?_
          rw [ho]
          refine y_icmp_ge (tgt := 55) hx hb d_M_seal_37 (by decide) ⟨by omega, by omega⟩ ⟨by omega, by omega⟩ (fun hc3 => absurd hc3 (by omega)) (fun hc3 => ?_)
          refine lv_iload_n hx hb d_M_seal_40 rfl (lv_at hl 1 rfl) ?_
          refine lv_aload_n hx hb d_M_seal_41 rfl (lv_at hl 2 rfl) ?_
          refine y_getr hx hb hA in_M hown hK.1 hW 0 (by omega) laym_0 rfl 17 (by decide) (hA _ k_fl_M_52) rfl d_M_seal_42 ?_
          refine lv_iload_n hx hb d_M_seal_45 rfl (lv_at hl 0 rfl) ?_
          refine y_iald hx hb hK.1 hW 15 (by omega) laym_15 rfl (by decide) j rfl (by omega) d_M_seal_46 ?_
          refine y_isub hx hb d_M_seal_47 ?_
          refine lv_istore_n (lv' := [(1, .int (J ((τ 0 23 + sm (τ 8) ns - sm (τ 15) j) - (τ 15 j)))), (2, .int (J (((j : Nat) : Int)))), (0, .ref (z + 0))]) hx hb d_M_seal_48 rfl hl (by decide) rfl (fun ls hl => ?_)
          refine lv_iinc (k := 1) (v := J (((j + 1 : Nat) : Int))) (lv' := [(2, .int (J (((j + 1 : Nat) : Int)))), (1, .int (J ((τ 0 23 + sm (τ 8) ns - sm (τ 15) j) - (τ 15 j)))), (0, .ref (z + 0))]) hx hb d_M_seal_49 hl rfl (by rw [Int.natCast_add j 1]; exact J_add _ _) (by decide) rfl (fun ls hl => ?_)
          refine lv_goto (tgt := 32) hx hb d_M_seal_52 (by decide) ?_
          refine ih (j + 1) (by omega) ls H locs hW hS ?_
          have e : τ 0 23 + sm (τ 8) ns - sm (τ 15) (j + 1) = τ 0 23 + sm (τ 8) ns - sm (τ 15) j - τ 15 j := by show _ - (sm (τ 15) j + τ 15 j) = _; omega
          rw [e]
          exact hl
      exact loop32 no 0 (by omega) ls _ _ hW hS (by have e : τ 0 23 + sm (τ 8) ns - sm (τ 15) 0 = τ 0 23 + sm (τ 8) ns := Int.sub_zero _; rw [e]; exact hl)
    | succ q9 ih =>
      intro j hjk ls H locs hW hS hl
      refine lv_iload_n hx hb d_M_seal_7 rfl (lv_at hl 0 rfl) ?_
      refine lv_aload_n hx hb d_M_seal_8 rfl (lv_at hl 2 rfl) ?_
      refine y_geti hx hb hA in_M hown hK.1 hW 0 (by omega) laym_0 rfl 4 (by decide) (hA _ k_fl_M_153) rfl d_M_seal_9 ?_
      rw [hs]
      refine y_icmp_ge (tgt := 30) hx hb d_M_seal_12 (by decide) ⟨by omega, by omega⟩ ⟨by omega, by omega⟩ (fun hc4 => absurd hc4 (by omega)) (fun hc4 => ?_)
      refine lv_iload_n hx hb d_M_seal_15 rfl (lv_at hl 1 rfl) ?_
      refine lv_aload_n hx hb d_M_seal_16 rfl (lv_at hl 2 rfl) ?_
      refine y_getr hx hb hA in_M hown hK.1 hW 0 (by omega) laym_0 rfl 9 (by decide) (hA _ k_fl_M_31) rfl d_M_seal_17 ?_
      refine lv_iload_n hx hb d_M_seal_20 rfl (lv_at hl 0 rfl) ?_
      refine y_iald hx hb hK.1 hW 8 (by omega) laym_8 rfl (by decide) j rfl (by omega) d_M_seal_21 ?_
      refine y_iadd hx hb d_M_seal_22 ?_
      refine lv_istore_n (lv' := [(1, .int (J ((τ 0 23 + sm (τ 8) j) + (τ 8 j)))), (2, .int (J (((j : Nat) : Int)))), (0, .ref (z + 0))]) hx hb d_M_seal_23 rfl hl (by decide) rfl (fun ls hl => ?_)
      refine lv_iinc (k := 1) (v := J (((j + 1 : Nat) : Int))) (lv' := [(2, .int (J (((j + 1 : Nat) : Int)))), (1, .int (J ((τ 0 23 + sm (τ 8) j) + (τ 8 j)))), (0, .ref (z + 0))]) hx hb d_M_seal_24 hl rfl (by rw [Int.natCast_add j 1]; exact J_add _ _) (by decide) rfl (fun ls hl => ?_)
      refine lv_goto (tgt := 7) hx hb d_M_seal_27 (by decide) ?_
      refine ih (j + 1) (by omega) ls H locs hW hS ?_
      have e : τ 0 23 + sm (τ 8) (j + 1) = τ 0 23 + sm (τ 8) j + τ 8 j := (Int.add_assoc _ _ _).symm
      rw [e]
      exact hl
  exact loop7 ns 0 (by omega) ls _ _ hW hS (by have e : τ 0 23 + sm (τ 8) 0 = τ 0 23 := Int.add_zero _; rw [e]; exact hl)

set_option maxHeartbeats 4000000 in
set_option maxRecDepth 100000 in
theorem c_M_covers (l : Launch) (G : yG) (z : Nat) (τ : yM) (ns no : Nat) (hns : ns ≤ 2) (hno : no ≤ 2) (hs : τ 0 4 = (ns : Int)) (ho : τ 0 13 = (no : Int)) (ht : 0 ≤ τ 0 23 ∧ τ 0 23 < 2473) (hsw : ∀ j, j < ns → 0 ≤ τ 8 j ∧ τ 8 j ≤ 2472) (how : ∀ j, j < no → 0 ≤ τ 15 j ∧ τ 15 j ≤ 2472) (hsv : ∀ j, j < ns → 0 ≤ τ 6 j ∧ τ 6 j < 1000) (hov : ∀ j, j < no → 0 ≤ τ 13 j ∧ τ 13 j < 1000) (hbr : -9999 ≤ τ 0 22 ∧ τ 0 22 ≤ 9999) : Met l y_M_covers (Cond.code y_M_covers b_M_covers 3 (some .int) :: yT) ({ frames := 1, cells := 0, slots := 0, locals := 21 } : Room) (yP ycl G yLM 0 28 z τ (yK G) [.ref (z + 0)]) (yQi ((sm (fun j => (τ 6 j * 1281 + τ 8 j * 1369) % 2473) ns - sm (fun j => (τ 13 j * 1281 + τ 15 j * 1369) % 2473) no - τ 0 22 * 1281) % 2473)) 0 0 yN := by
  refine y_met (by decide +kernel) (Nat.le_of_ble_eq_true rfl) ?_
  intro p e s m below meth c ls hx hb hr hml hlocks hown hname hts hv hl
  have hA : ∀ w ∈ yT, w.before _ s = true := fun w h => hts w (List.mem_cons_of_mem _ h)
  have hl : lv_has ls 3 [(0, .ref (z + 0))] := hl
  obtain ⟨hW, hK⟩ := hv
  have hS : va_S yN s.heap s.heap [] := va_S.rf
  have hb1 := sm_rng (f := (fun j => (τ 6 j * 1281 + τ 8 j * 1369) % 2473)) (B := 2472) (N := ns) (fun j _ => by omega) ns (Nat.le_refl _)
  have hb2 := sm_rng (f := (fun j => (τ 13 j * 1281 + τ 15 j * 1369) % 2473)) (B := 2472) (N := no) (fun j _ => by omega) no (Nat.le_refl _)
  refine lv_iconst (v := J (0)) hx hb d_M_covers_0 rfl ?_
  refine lv_istore_n (lv' := [(1, .int (J (0))), (0, .ref (z + 0))]) hx hb d_M_covers_1 rfl hl (by decide) rfl (fun ls hl => ?_)
  refine lv_iconst (v := J (0)) hx hb d_M_covers_2 rfl ?_
  refine lv_istore_n (lv' := [(2, .int (J (0))), (1, .int (J (0))), (0, .ref (z + 0))]) hx hb d_M_covers_3 rfl hl (by decide) rfl (fun ls hl => ?_)
  have loop4 : ∀ (q9 j : Nat), j + q9 = ns → ∀ (ls : Array Slot) (H : Heap) (locs : List Loc), yW ycl G yLM 0 28 z τ H → va_S yN s.heap H locs → lv_has ls 3 [(2, .int (J (((j : Nat) : Int)))), (1, .int (J (sm (fun j => (τ 6 j * 1281 + τ 8 j * 1369) % 2473) j))), (0, .ref (z + 0))] → W p l e ({ frames := 1, cells := 0, slots := 0, locals := 21 } : Room) s m ([.ref (z + 0)] : List Value).toArray below meth c H locs 0 0 (MQ below (yQi ((sm (fun j => (τ 6 j * 1281 + τ 8 j * 1369) % 2473) ns - sm (fun j => (τ 13 j * 1281 + τ 15 j * 1369) % 2473) no - τ 0 22 * 1281) % 2473)) ([.ref (z + 0)] : List Value).toArray s 0 0 yN) (F0 m 4 ls []) := by
    intro q9
    induction q9 with
    | zero =>
      intro j hjk ls H locs hW hS hl
      have hjN : ns = j := by omega
      subst hjN
      refine lv_iload_n hx hb d_M_covers_4 rfl (lv_at hl 0 rfl) ?_
      refine lv_aload_n hx hb d_M_covers_5 rfl (lv_at hl 2 rfl) ?_
      refine y_geti hx hb hA in_M hown hK.1 hW 0 (by omega) laym_0 rfl 4 (by decide) (hA _ k_fl_M_153) rfl d_M_covers_6 ?_
      rw [hs]
      refine y_icmp_ge (tgt := 36) hx hb d_M_covers_9 (by decide) ⟨by omega, by omega⟩ ⟨by omega, by omega⟩ (fun hc1 => ?_) (fun hc1 => absurd hc1 (by omega))
      refine lv_iconst (v := J (0)) hx hb d_M_covers_36 rfl ?_
      refine lv_istore_n (lv' := [(2, .int (J (0))), (1, .int (J (sm (fun j => (τ 6 j * 1281 + τ 8 j * 1369) % 2473) ns))), (0, .ref (z + 0))]) hx hb d_M_covers_37 rfl hl (by decide) rfl (fun ls hl => ?_)
      have loop38 : ∀ (q9 j : Nat), j + q9 = no → ∀ (ls : Array Slot) (H : Heap) (locs : List Loc), yW ycl G yLM 0 28 z τ H → va_S yN s.heap H locs → lv_has ls 3 [(2, .int (J (((j : Nat) : Int)))), (1, .int (J (sm (fun j => (τ 6 j * 1281 + τ 8 j * 1369) % 2473) ns - sm (fun j => (τ 13 j * 1281 + τ 15 j * 1369) % 2473) j))), (0, .ref (z + 0))] → W p l e ({ frames := 1, cells := 0, slots := 0, locals := 21 } : Room) s m ([.ref (z + 0)] : List Value).toArray below meth c H locs 0 0 (MQ below (yQi ((sm (fun j => (τ 6 j * 1281 + τ 8 j * 1369) % 2473) ns - sm (fun j => (τ 13 j * 1281 + τ 15 j * 1369) % 2473) no - τ 0 22 * 1281) % 2473)) ([.ref (z + 0)] : List Value).toArray s 0 0 yN) (F0 m 38 ls []) := by
        intro q9
        induction q9 with
        | zero =>
          intro j hjk ls H locs hW hS hl
          have hjN : no = j := by omega
          subst hjN
          refine lv_iload_n hx hb d_M_covers_38 rfl (lv_at hl 0 rfl) ?_
          refine lv_aload_n hx hb d_M_covers_39 rfl (lv_at hl 2 rfl) ?_
          refine y_geti hx hb hA in_M hown hK.1 hW 0 (by omega) laym_0 rfl 13 (by decide) (hA _ k_fl_M_156) rfl d_M_covers_40 ?_
          rw [ho]
          refine y_icmp_ge (tgt := 70) hx hb d_M_covers_43 (by decide) ⟨by omega, by omega⟩ ⟨by omega, by omega⟩ (fun hc2 => ?_) (fun hc2 => absurd hc2 (by omega))
          refine lv_iload_n hx hb d_M_covers_70 rfl (lv_at hl 1 rfl) ?_
          refine lv_aload_n hx hb d_M_covers_71 rfl (lv_at hl 2 rfl) ?_
          refine y_geti hx hb hA in_M hown hK.1 hW 0 (by omega) laym_0 rfl 22 (by decide) (hA _ k_fl_M_159) rfl d_M_covers_72 ?_
          refine lv_sipush (v := J (1281)) hx hb d_M_covers_75 (by decide) ?_
          refine y_imul hx hb d_M_covers_78 ?_
          refine y_isub hx hb d_M_covers_79 ?_
          refine lv_sipush (v := J (2473)) hx hb d_M_covers_80 (by decide) ?_
          refine y_ci (y_runS (As := [.int (J ((sm (fun j => (τ 6 j * 1281 + τ 8 j * 1369) % 2473) ns - sm (fun j => (τ 13 j * 1281 + τ 15 j * 1369) % 2473) no) - ((τ 0 22) * 1281))), .int (J (2473))]) (rest := []) ⟨hx, hb, hml, hown, hts⟩ (c_M_rest l G ((sm (fun j => (τ 6 j * 1281 + τ 8 j * 1369) % 2473) ns - sm (fun j => (τ 13 j * 1281 + τ 15 j * 1369) % 2473) no) - ((τ 0 22) * 1281)) (2473) ⟨by omega, by omega⟩ ⟨by omega, by omega⟩) 2 k_co_M_rest k_ml_M_131 k_st_M_rest k_in_M rfl rfl (by decide +kernel) ⟨Nat.le_of_ble_eq_true rfl, Nat.le_of_ble_eq_true rfl⟩ (yPs0 (yK_bl G) (yK_mv G) hK) rfl hl.1 rfl (Nat.le_of_ble_eq_true rfl) d_M_covers_83 ⟨Nat.zero_le _, Nat.zero_le _⟩) hS hW (fun H locs hW hS => ?_)
          exact y_reti hx hb hr hlocks hS rfl d_M_covers_86
        | succ q9 ih =>
          intro j hjk ls H locs hW hS hl
          have hv1 := hov j (by omega)
          have hw1 := how j (by omega)
          refine lv_iload_n hx hb d_M_covers_38 rfl (lv_at hl 0 rfl) ?_
          refine lv_aload_n hx hb d_M_covers_39 rfl (lv_at hl 2 rfl) ?_
          refine y_geti hx hb hA in_M hown hK.1 hW 0 (by omega) laym_0 rfl 13 (by decide) (hA _ k_fl_M_156) rfl d_M_covers_40 ?_
          rw [ho]
          refine y_icmp_ge (tgt := 70) hx hb d_M_covers_43 (by decide) ⟨by omega, by omega⟩ ⟨by omega, by omega⟩ (fun hc3 => absurd hc3 (by omega)) (fun hc3 => ?_)
          refine lv_iload_n hx hb d_M_covers_46 rfl (lv_at hl 1 rfl) ?_
          refine lv_aload_n hx hb d_M_covers_47 rfl (lv_at hl 2 rfl) ?_
          refine y_getr hx hb hA in_M hown hK.1 hW 0 (by omega) laym_0 rfl 15 (by decide) (hA _ k_fl_M_46) rfl d_M_covers_48 ?_
          refine lv_iload_n hx hb d_M_covers_51 rfl (lv_at hl 0 rfl) ?_
          refine y_iald hx hb hK.1 hW 13 (by omega) laym_13 rfl (by decide) j rfl (by omega) d_M_covers_52 ?_
          refine lv_aload_n hx hb d_M_covers_53 rfl (lv_at hl 2 rfl) ?_
          refine y_getr hx hb hA in_M hown hK.1 hW 0 (by omega) laym_0 rfl 17 (by decide) (hA _ k_fl_M_52) rfl d_M_covers_54 ?_
          refine lv_iload_n hx hb d_M_covers_57 rfl (lv_at hl 0 rfl) ?_
          refine y_iald hx hb hK.1 hW 15 (by omega) laym_15 rfl (by decide) j rfl (by omega) d_M_covers_58 ?_
          refine y_ci (y_runS (As := [.int (J (τ 13 j)), .int (J (τ 15 j))]) (rest := [.int (J (sm (fun j => (τ 6 j * 1281 + τ 8 j * 1369) % 2473) ns - sm (fun j => (τ 13 j * 1281 + τ 15 j * 1369) % 2473) j))]) ⟨hx, hb, hml, hown, hts⟩ (c_M_cover l G (τ 13 j) (τ 15 j) (by omega) (by omega)) 2 k_co_M_cover k_ml_M_171 k_st_M_cover k_in_M rfl rfl (by decide +kernel) ⟨Nat.le_of_ble_eq_true rfl, Nat.le_of_ble_eq_true rfl⟩ (yPs0 (yK_bl G) (yK_mv G) hK) rfl hl.1 rfl (Nat.le_of_ble_eq_true rfl) d_M_covers_59 ⟨Nat.zero_le _, Nat.zero_le _⟩) hS hW (fun H locs hW hS => ?_)
          refine y_isub hx hb d_M_covers_62 ?_
          refine lv_istore_n (lv' := [(1, .int (J ((sm (fun j => (τ 6 j * 1281 + τ 8 j * 1369) % 2473) ns - sm (fun j => (τ 13 j * 1281 + τ 15 j * 1369) % 2473) j) - (((τ 13 j) * 1281 + (τ 15 j) * 1369) % 2473)))), (2, .int (J (((j : Nat) : Int)))), (0, .ref (z + 0))]) hx hb d_M_covers_63 rfl hl (by decide) rfl (fun ls hl => ?_)
          refine lv_iinc (k := 1) (v := J (((j + 1 : Nat) : Int))) (lv' := [(2, .int (J (((j + 1 : Nat) : Int)))), (1, .int (J ((sm (fun j => (τ 6 j * 1281 + τ 8 j * 1369) % 2473) ns - sm (fun j => (τ 13 j * 1281 + τ 15 j * 1369) % 2473) j) - (((τ 13 j) * 1281 + (τ 15 j) * 1369) % 2473)))), (0, .ref (z + 0))]) hx hb d_M_covers_64 hl rfl (by rw [Int.natCast_add j 1]; exact J_add _ _) (by decide) rfl (fun ls hl => ?_)
          refine lv_goto (tgt := 38) hx hb d_M_covers_67 (by decide) ?_
          refine ih (j + 1) (by omega) ls H locs hW hS ?_
          have e : sm (fun j => (τ 6 j * 1281 + τ 8 j * 1369) % 2473) ns - sm (fun j => (τ 13 j * 1281 + τ 15 j * 1369) % 2473) (j + 1) = sm (fun j => (τ 6 j * 1281 + τ 8 j * 1369) % 2473) ns - sm (fun j => (τ 13 j * 1281 + τ 15 j * 1369) % 2473) j - (τ 13 j * 1281 + τ 15 j * 1369) % 2473 := by show _ - (sm (fun j => (τ 13 j * 1281 + τ 15 j * 1369) % 2473) j + (τ 13 j * 1281 + τ 15 j * 1369) % 2473) = _; omega
          rw [e]
          exact hl
      exact loop38 no 0 (by omega) ls _ _ hW hS (by have e : sm (fun j => (τ 6 j * 1281 + τ 8 j * 1369) % 2473) ns - sm (fun j => (τ 13 j * 1281 + τ 15 j * 1369) % 2473) 0 = sm (fun j => (τ 6 j * 1281 + τ 8 j * 1369) % 2473) ns := Int.sub_zero _; rw [e]; exact hl)
    | succ q9 ih =>
      intro j hjk ls H locs hW hS hl
      have hv1 := hsv j (by omega)
      have hw1 := hsw j (by omega)
      refine lv_iload_n hx hb d_M_covers_4 rfl (lv_at hl 0 rfl) ?_
      refine lv_aload_n hx hb d_M_covers_5 rfl (lv_at hl 2 rfl) ?_
      refine y_geti hx hb hA in_M hown hK.1 hW 0 (by omega) laym_0 rfl 4 (by decide) (hA _ k_fl_M_153) rfl d_M_covers_6 ?_
      rw [hs]
      refine y_icmp_ge (tgt := 36) hx hb d_M_covers_9 (by decide) ⟨by omega, by omega⟩ ⟨by omega, by omega⟩ (fun hc4 => absurd hc4 (by omega)) (fun hc4 => ?_)
      refine lv_iload_n hx hb d_M_covers_12 rfl (lv_at hl 1 rfl) ?_
      refine lv_aload_n hx hb d_M_covers_13 rfl (lv_at hl 2 rfl) ?_
      refine y_getr hx hb hA in_M hown hK.1 hW 0 (by omega) laym_0 rfl 7 (by decide) (hA _ k_fl_M_25) rfl d_M_covers_14 ?_
      refine lv_iload_n hx hb d_M_covers_17 rfl (lv_at hl 0 rfl) ?_
      refine y_iald hx hb hK.1 hW 6 (by omega) laym_6 rfl (by decide) j rfl (by omega) d_M_covers_18 ?_
      refine lv_aload_n hx hb d_M_covers_19 rfl (lv_at hl 2 rfl) ?_
      refine y_getr hx hb hA in_M hown hK.1 hW 0 (by omega) laym_0 rfl 9 (by decide) (hA _ k_fl_M_31) rfl d_M_covers_20 ?_
      refine lv_iload_n hx hb d_M_covers_23 rfl (lv_at hl 0 rfl) ?_
      refine y_iald hx hb hK.1 hW 8 (by omega) laym_8 rfl (by decide) j rfl (by omega) d_M_covers_24 ?_
      refine y_ci (y_runS (As := [.int (J (τ 6 j)), .int (J (τ 8 j))]) (rest := [.int (J (sm (fun j => (τ 6 j * 1281 + τ 8 j * 1369) % 2473) j))]) ⟨hx, hb, hml, hown, hts⟩ (c_M_cover l G (τ 6 j) (τ 8 j) (by omega) (by omega)) 2 k_co_M_cover k_ml_M_171 k_st_M_cover k_in_M rfl rfl (by decide +kernel) ⟨Nat.le_of_ble_eq_true rfl, Nat.le_of_ble_eq_true rfl⟩ (yPs0 (yK_bl G) (yK_mv G) hK) rfl hl.1 rfl (Nat.le_of_ble_eq_true rfl) d_M_covers_25 ⟨Nat.zero_le _, Nat.zero_le _⟩) hS hW (fun H locs hW hS => ?_)
      refine y_iadd hx hb d_M_covers_28 ?_
      refine lv_istore_n (lv' := [(1, .int (J ((sm (fun j => (τ 6 j * 1281 + τ 8 j * 1369) % 2473) j) + (((τ 6 j) * 1281 + (τ 8 j) * 1369) % 2473)))), (2, .int (J (((j : Nat) : Int)))), (0, .ref (z + 0))]) hx hb d_M_covers_29 rfl hl (by decide) rfl (fun ls hl => ?_)
      refine lv_iinc (k := 1) (v := J (((j + 1 : Nat) : Int))) (lv' := [(2, .int (J (((j + 1 : Nat) : Int)))), (1, .int (J ((sm (fun j => (τ 6 j * 1281 + τ 8 j * 1369) % 2473) j) + (((τ 6 j) * 1281 + (τ 8 j) * 1369) % 2473)))), (0, .ref (z + 0))]) hx hb d_M_covers_30 hl rfl (by rw [Int.natCast_add j 1]; exact J_add _ _) (by decide) rfl (fun ls hl => ?_)
      refine lv_goto (tgt := 4) hx hb d_M_covers_33 (by decide) ?_
      exact ih (j + 1) (by omega) ls H locs hW hS hl
  exact loop4 ns 0 (by omega) ls _ _ hW hS hl
