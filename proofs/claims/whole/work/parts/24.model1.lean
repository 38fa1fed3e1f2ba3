/-! Where the cells of the reference lie. -/
def yLM : Nat → yL := fun c => match c with
  | 0 => .inl (10, [some 1, some 2, none, some 3, none, some 4, some 5, some 6, some 7, some 8, some 9, some 10, some 11, none, some 12, some 13, some 14, some 15, some 16, some 17, some 18, some 19, none, none, none, some 20, some 21, some 22, some 23, some 24, some 25, some 26, some 27])
  | 1 => .inr (.inl (0, 2473))
  | 2 => .inr (.inl (0, 2473))
  | 3 => .inr (.inl (0, 4))
  | 4 => .inr (.inl (0, 2))
  | 5 => .inr (.inl (0, 2))
  | 6 => .inr (.inl (0, 2))
  | 7 => .inr (.inl (0, 2))
  | 8 => .inr (.inl (0, 2))
  | 9 => .inr (.inl (0, 2))
  | 10 => .inr (.inl (0, 2))
  | 11 => .inr (.inl (0, 8))
  | 12 => .inr (.inl (0, 2))
  | 13 => .inr (.inl (0, 2))
  | 14 => .inr (.inl (0, 2))
  | 15 => .inr (.inl (0, 2))
  | 16 => .inr (.inl (0, 2))
  | 17 => .inr (.inl (0, 2))
  | 18 => .inr (.inl (0, 2))
  | 19 => .inr (.inl (0, 2))
  | 20 => .inr (.inl (0, 12))
  | 21 => .inr (.inl (0, 12))
  | 22 => .inr (.inl (0, 24))
  | 23 => .inr (.inl (0, 16))
  | 24 => .inr (.inl (0, 16))
  | 25 => .inr (.inl (0, 16))
  | 26 => .inr (.inl (0, 16))
  | _ => .inr (.inl (0, 16))
theorem laym_0 : yLM 0 = .inl (10, [some 1, some 2, none, some 3, none, some 4, some 5, some 6, some 7, some 8, some 9, some 10, some 11, none, some 12, some 13, some 14, some 15, some 16, some 17, some 18, some 19, none, none, none, some 20, some 21, some 22, some 23, some 24, some 25, some 26, some 27]) := rfl
theorem laym_1 : yLM 1 = .inr (.inl (0, 2473)) := rfl
theorem laym_2 : yLM 2 = .inr (.inl (0, 2473)) := rfl
theorem laym_3 : yLM 3 = .inr (.inl (0, 4)) := rfl
theorem laym_4 : yLM 4 = .inr (.inl (0, 2)) := rfl
theorem laym_5 : yLM 5 = .inr (.inl (0, 2)) := rfl
theorem laym_6 : yLM 6 = .inr (.inl (0, 2)) := rfl
theorem laym_7 : yLM 7 = .inr (.inl (0, 2)) := rfl
theorem laym_8 : yLM 8 = .inr (.inl (0, 2)) := rfl
theorem laym_9 : yLM 9 = .inr (.inl (0, 2)) := rfl
theorem laym_10 : yLM 10 = .inr (.inl (0, 2)) := rfl
theorem laym_11 : yLM 11 = .inr (.inl (0, 8)) := rfl
theorem laym_12 : yLM 12 = .inr (.inl (0, 2)) := rfl
theorem laym_13 : yLM 13 = .inr (.inl (0, 2)) := rfl
theorem laym_14 : yLM 14 = .inr (.inl (0, 2)) := rfl
theorem laym_15 : yLM 15 = .inr (.inl (0, 2)) := rfl
theorem laym_16 : yLM 16 = .inr (.inl (0, 2)) := rfl
theorem laym_17 : yLM 17 = .inr (.inl (0, 2)) := rfl
theorem laym_18 : yLM 18 = .inr (.inl (0, 2)) := rfl
theorem laym_19 : yLM 19 = .inr (.inl (0, 2)) := rfl
theorem laym_20 : yLM 20 = .inr (.inl (0, 12)) := rfl
theorem laym_21 : yLM 21 = .inr (.inl (0, 12)) := rfl
theorem laym_22 : yLM 22 = .inr (.inl (0, 24)) := rfl
theorem laym_23 : yLM 23 = .inr (.inl (0, 16)) := rfl
theorem laym_24 : yLM 24 = .inr (.inl (0, 16)) := rfl
theorem laym_25 : yLM 25 = .inr (.inl (0, 16)) := rfl
theorem laym_26 : yLM 26 = .inr (.inl (0, 16)) := rfl
theorem laym_27 : yLM 27 = .inr (.inl (0, 16)) := rfl
/-- the tables of the multiples -/
def mTb (τ : yM) : Prop := ∀ j, j < 2473 → τ 1 j = eX (j : Int) ∧ τ 2 j = eY (j : Int)
theorem cv_mpw_lt (a : Nat) : ∀ t, cv_mpw a t < 10009
  | 0 => by show 1 < 10009; decide
  | t + 1 => by
    unfold cv_mpw cv_mq
    split <;> exact Nat.mod_lt _ (by decide)
theorem mT_x {τ : yM} (h : mTb τ) {a : Int} {m : Nat} (e : (m : Int) = a % 2473) : τ 1 m = eX a := by
  rw [(h m (by omega)).1]
  exact eX_cong (by omega)
theorem mT_y {τ : yM} (h : mTb τ) {a : Int} {m : Nat} (e : (m : Int) = a % 2473) : τ 2 m = eY a := by
  rw [(h m (by omega)).2]
  exact eY_cong (by omega)

theorem d_M_times_0 : decode b_M_times 0 = .ok (.iload_n 0, 1) := by decide +kernel
theorem d_M_times_1 : decode b_M_times 1 = .ok (.iload_n 1, 1) := by decide +kernel
theorem d_M_times_2 : decode b_M_times 2 = .ok (.imul, 1) := by decide +kernel
theorem d_M_times_3 : decode b_M_times 3 = .ok (.sipush 10009, 3) := by decide +kernel
theorem d_M_times_6 : decode b_M_times 6 = .ok (.irem, 1) := by decide +kernel
theorem d_M_times_7 : decode b_M_times 7 = .ok (.ireturn, 1) := by decide +kernel
theorem d_M_whole_0 : decode b_M_whole 0 = .ok (.iload_n 0, 1) := by decide +kernel
theorem d_M_whole_1 : decode b_M_whole 1 = .ok (.sipush 10009, 3) := by decide +kernel
theorem d_M_whole_4 : decode b_M_whole 4 = .ok (.irem, 1) := by decide +kernel
theorem d_M_whole_5 : decode b_M_whole 5 = .ok (.sipush 10009, 3) := by decide +kernel
theorem d_M_whole_8 : decode b_M_whole 8 = .ok (.iadd, 1) := by decide +kernel
theorem d_M_whole_9 : decode b_M_whole 9 = .ok (.sipush 10009, 3) := by decide +kernel
theorem d_M_whole_12 : decode b_M_whole 12 = .ok (.irem, 1) := by decide +kernel
theorem d_M_whole_13 : decode b_M_whole 13 = .ok (.ireturn, 1) := by decide +kernel
theorem d_M_power_0 : decode b_M_power 0 = .ok (.iconst 1, 1) := by decide +kernel
theorem d_M_power_1 : decode b_M_power 1 = .ok (.istore_n 2, 1) := by decide +kernel
theorem d_M_power_2 : decode b_M_power 2 = .ok (.bipush 13, 2) := by decide +kernel
theorem d_M_power_4 : decode b_M_power 4 = .ok (.istore_n 3, 1) := by decide +kernel
theorem d_M_power_5 : decode b_M_power 5 = .ok (.iload_n 3, 1) := by decide +kernel
theorem d_M_power_6 : decode b_M_power 6 = .ok (.ifCond .lt 34, 3) := by decide +kernel
theorem d_M_power_9 : decode b_M_power 9 = .ok (.iload_n 2, 1) := by decide +kernel
theorem d_M_power_10 : decode b_M_power 10 = .ok (.iload_n 2, 1) := by decide +kernel
theorem d_M_power_11 : decode b_M_power 11 = .ok (.invokestatic 91, 3) := by decide +kernel
theorem d_M_power_14 : decode b_M_power 14 = .ok (.istore_n 2, 1) := by decide +kernel
theorem d_M_power_15 : decode b_M_power 15 = .ok (.iload_n 1, 1) := by decide +kernel
theorem d_M_power_16 : decode b_M_power 16 = .ok (.iload_n 3, 1) := by decide +kernel
theorem d_M_power_17 : decode b_M_power 17 = .ok (.ishr, 1) := by decide +kernel
theorem d_M_power_18 : decode b_M_power 18 = .ok (.iconst 1, 1) := by decide +kernel
theorem d_M_power_19 : decode b_M_power 19 = .ok (.iand, 1) := by decide +kernel
theorem d_M_power_20 : decode b_M_power 20 = .ok (.iconst 1, 1) := by decide +kernel
theorem d_M_power_21 : decode b_M_power 21 = .ok (.if_icmp .ne 11, 3) := by decide +kernel
theorem d_M_power_24 : decode b_M_power 24 = .ok (.iload_n 2, 1) := by decide +kernel
theorem d_M_power_25 : decode b_M_power 25 = .ok (.iload_n 0, 1) := by decide +kernel
theorem d_M_power_26 : decode b_M_power 26 = .ok (.invokestatic 91, 3) := by decide +kernel
theorem d_M_power_29 : decode b_M_power 29 = .ok (.goto 4, 3) := by decide +kernel
theorem d_M_power_32 : decode b_M_power 32 = .ok (.iload_n 2, 1) := by decide +kernel
theorem d_M_power_33 : decode b_M_power 33 = .ok (.istore_n 2, 1) := by decide +kernel
theorem d_M_power_34 : decode b_M_power 34 = .ok (.iinc 3 (-1), 3) := by decide +kernel
theorem d_M_power_37 : decode b_M_power 37 = .ok (.goto (-32), 3) := by decide +kernel
theorem d_M_power_40 : decode b_M_power 40 = .ok (.iload_n 2, 1) := by decide +kernel
theorem d_M_power_41 : decode b_M_power 41 = .ok (.ireturn, 1) := by decide +kernel
theorem d_M_rest_0 : decode b_M_rest 0 = .ok (.iload_n 0, 1) := by decide +kernel
theorem d_M_rest_1 : decode b_M_rest 1 = .ok (.iload_n 1, 1) := by decide +kernel
theorem d_M_rest_2 : decode b_M_rest 2 = .ok (.irem, 1) := by decide +kernel
theorem d_M_rest_3 : decode b_M_rest 3 = .ok (.iload_n 1, 1) := by decide +kernel
theorem d_M_rest_4 : decode b_M_rest 4 = .ok (.iadd, 1) := by decide +kernel
theorem d_M_rest_5 : decode b_M_rest 5 = .ok (.iload_n 1, 1) := by decide +kernel
theorem d_M_rest_6 : decode b_M_rest 6 = .ok (.irem, 1) := by decide +kernel
theorem d_M_rest_7 : decode b_M_rest 7 = .ok (.ireturn, 1) := by decide +kernel
theorem d_M_in_0 : decode b_M_in 0 = .ok (.iload_n 0, 1) := by decide +kernel
theorem d_M_in_1 : decode b_M_in 1 = .ok (.iload_n 1, 1) := by decide +kernel
theorem d_M_in_2 : decode b_M_in 2 = .ok (.if_icmp .lt 12, 3) := by decide +kernel
theorem d_M_in_5 : decode b_M_in 5 = .ok (.iload_n 0, 1) := by decide +kernel
theorem d_M_in_6 : decode b_M_in 6 = .ok (.iload_n 2, 1) := by decide +kernel
theorem d_M_in_7 : decode b_M_in 7 = .ok (.if_icmp .gt 7, 3) := by decide +kernel
theorem d_M_in_10 : decode b_M_in 10 = .ok (.iconst 1, 1) := by decide +kernel
theorem d_M_in_11 : decode b_M_in 11 = .ok (.goto 4, 3) := by decide +kernel
theorem d_M_in_14 : decode b_M_in 14 = .ok (.iconst 0, 1) := by decide +kernel
theorem d_M_in_15 : decode b_M_in 15 = .ok (.ireturn, 1) := by decide +kernel
theorem d_M_hash_0 : decode b_M_hash 0 = .ok (.aload_n 0, 1) := by decide +kernel
theorem d_M_hash_1 : decode b_M_hash 1 = .ok (.getfield 7, 3) := by decide +kernel
theorem d_M_hash_4 : decode b_M_hash 4 = .ok (.iload_n 1, 1) := by decide +kernel
theorem d_M_hash_5 : decode b_M_hash 5 = .ok (.sipush 2409, 3) := by decide +kernel
theorem d_M_hash_8 : decode b_M_hash 8 = .ok (.imul, 1) := by decide +kernel
theorem d_M_hash_9 : decode b_M_hash 9 = .ok (.iload_n 2, 1) := by decide +kernel
theorem d_M_hash_10 : decode b_M_hash 10 = .ok (.sipush 1499, 3) := by decide +kernel
theorem d_M_hash_13 : decode b_M_hash 13 = .ok (.imul, 1) := by decide +kernel
theorem d_M_hash_14 : decode b_M_hash 14 = .ok (.iadd, 1) := by decide +kernel
theorem d_M_hash_15 : decode b_M_hash 15 = .ok (.iload_n 3, 1) := by decide +kernel
theorem d_M_hash_16 : decode b_M_hash 16 = .ok (.iadd, 1) := by decide +kernel
theorem d_M_hash_17 : decode b_M_hash 17 = .ok (.sipush 2473, 3) := by decide +kernel
theorem d_M_hash_20 : decode b_M_hash 20 = .ok (.irem, 1) := by decide +kernel
theorem d_M_hash_21 : decode b_M_hash 21 = .ok (.iaload, 1) := by decide +kernel
theorem d_M_hash_22 : decode b_M_hash 22 = .ok (.ireturn, 1) := by decide +kernel
theorem d_M_commitment_0 : decode b_M_commitment 0 = .ok (.aload_n 0, 1) := by decide +kernel
theorem d_M_commitment_1 : decode b_M_commitment 1 = .ok (.getfield 7, 3) := by decide +kernel
theorem d_M_commitment_4 : decode b_M_commitment 4 = .ok (.iload_n 2, 1) := by decide +kernel
theorem d_M_commitment_5 : decode b_M_commitment 5 = .ok (.sipush 1281, 3) := by decide +kernel
theorem d_M_commitment_8 : decode b_M_commitment 8 = .ok (.imul, 1) := by decide +kernel
theorem d_M_commitment_9 : decode b_M_commitment 9 = .ok (.iload_n 3, 1) := by decide +kernel
theorem d_M_commitment_10 : decode b_M_commitment 10 = .ok (.sipush 1369, 3) := by decide +kernel
theorem d_M_commitment_13 : decode b_M_commitment 13 = .ok (.imul, 1) := by decide +kernel
theorem d_M_commitment_14 : decode b_M_commitment 14 = .ok (.iadd, 1) := by decide +kernel
theorem d_M_commitment_15 : decode b_M_commitment 15 = .ok (.aload_n 0, 1) := by decide +kernel
theorem d_M_commitment_16 : decode b_M_commitment 16 = .ok (.getfield 16, 3) := by decide +kernel
theorem d_M_commitment_19 : decode b_M_commitment 19 = .ok (.iload_n 1, 1) := by decide +kernel
theorem d_M_commitment_20 : decode b_M_commitment 20 = .ok (.iaload, 1) := by decide +kernel
theorem d_M_commitment_21 : decode b_M_commitment 21 = .ok (.iadd, 1) := by decide +kernel
theorem d_M_commitment_22 : decode b_M_commitment 22 = .ok (.sipush 2473, 3) := by decide +kernel
theorem d_M_commitment_25 : decode b_M_commitment 25 = .ok (.irem, 1) := by decide +kernel
theorem d_M_commitment_26 : decode b_M_commitment 26 = .ok (.iaload, 1) := by decide +kernel
theorem d_M_commitment_27 : decode b_M_commitment 27 = .ok (.ireturn, 1) := by decide +kernel
theorem d_M_nullifier_0 : decode b_M_nullifier 0 = .ok (.aload_n 0, 1) := by decide +kernel
theorem d_M_nullifier_1 : decode b_M_nullifier 1 = .ok (.aload_n 0, 1) := by decide +kernel
theorem d_M_nullifier_2 : decode b_M_nullifier 2 = .ok (.getfield 16, 3) := by decide +kernel
theorem d_M_nullifier_5 : decode b_M_nullifier 5 = .ok (.iload_n 1, 1) := by decide +kernel
theorem d_M_nullifier_6 : decode b_M_nullifier 6 = .ok (.iaload, 1) := by decide +kernel
theorem d_M_nullifier_7 : decode b_M_nullifier 7 = .ok (.iload_n 2, 1) := by decide +kernel
theorem d_M_nullifier_8 : decode b_M_nullifier 8 = .ok (.iconst 1, 1) := by decide +kernel
theorem d_M_nullifier_9 : decode b_M_nullifier 9 = .ok (.iadd, 1) := by decide +kernel
theorem d_M_nullifier_10 : decode b_M_nullifier 10 = .ok (.iconst 0, 1) := by decide +kernel
theorem d_M_nullifier_11 : decode b_M_nullifier 11 = .ok (.invokevirtual 102, 3) := by decide +kernel
theorem d_M_nullifier_14 : decode b_M_nullifier 14 = .ok (.ireturn, 1) := by decide +kernel
theorem d_M_cover_0 : decode b_M_cover 0 = .ok (.iload_n 0, 1) := by decide +kernel
theorem d_M_cover_1 : decode b_M_cover 1 = .ok (.sipush 1281, 3) := by decide +kernel
theorem d_M_cover_4 : decode b_M_cover 4 = .ok (.imul, 1) := by decide +kernel
theorem d_M_cover_5 : decode b_M_cover 5 = .ok (.iload_n 1, 1) := by decide +kernel
theorem d_M_cover_6 : decode b_M_cover 6 = .ok (.sipush 1369, 3) := by decide +kernel
theorem d_M_cover_9 : decode b_M_cover 9 = .ok (.imul, 1) := by decide +kernel
theorem d_M_cover_10 : decode b_M_cover 10 = .ok (.iadd, 1) := by decide +kernel
theorem d_M_cover_11 : decode b_M_cover 11 = .ok (.sipush 2473, 3) := by decide +kernel
theorem d_M_cover_14 : decode b_M_cover 14 = .ok (.irem, 1) := by decide +kernel
theorem d_M_cover_15 : decode b_M_cover 15 = .ok (.ireturn, 1) := by decide +kernel
theorem d_M_isScalar_0 : decode b_M_isScalar 0 = .ok (.iload_n 0, 1) := by decide +kernel
theorem d_M_isScalar_1 : decode b_M_isScalar 1 = .ok (.ifCond .lt 14, 3) := by decide +kernel
theorem d_M_isScalar_4 : decode b_M_isScalar 4 = .ok (.iload_n 0, 1) := by decide +kernel
theorem d_M_isScalar_5 : decode b_M_isScalar 5 = .ok (.sipush 2473, 3) := by decide +kernel
theorem d_M_isScalar_8 : decode b_M_isScalar 8 = .ok (.if_icmp .ge 7, 3) := by decide +kernel
theorem d_M_isScalar_11 : decode b_M_isScalar 11 = .ok (.iconst 1, 1) := by decide +kernel
theorem d_M_isScalar_12 : decode b_M_isScalar 12 = .ok (.goto 4, 3) := by decide +kernel
theorem d_M_isScalar_15 : decode b_M_isScalar 15 = .ok (.iconst 0, 1) := by decide +kernel
theorem d_M_isScalar_16 : decode b_M_isScalar 16 = .ok (.ireturn, 1) := by decide +kernel
theorem d_M_shared_0 : decode b_M_shared 0 = .ok (.aload_n 0, 1) := by decide +kernel
theorem d_M_shared_1 : decode b_M_shared 1 = .ok (.getfield 16, 3) := by decide +kernel
theorem d_M_shared_4 : decode b_M_shared 4 = .ok (.iload_n 1, 1) := by decide +kernel
theorem d_M_shared_5 : decode b_M_shared 5 = .ok (.iaload, 1) := by decide +kernel
theorem d_M_shared_6 : decode b_M_shared 6 = .ok (.iload_n 2, 1) := by decide +kernel
theorem d_M_shared_7 : decode b_M_shared 7 = .ok (.imul, 1) := by decide +kernel
theorem d_M_shared_8 : decode b_M_shared 8 = .ok (.sipush 2473, 3) := by decide +kernel
theorem d_M_shared_11 : decode b_M_shared 11 = .ok (.irem, 1) := by decide +kernel
theorem d_M_shared_12 : decode b_M_shared 12 = .ok (.ireturn, 1) := by decide +kernel
theorem d_M_valueOf_0 : decode b_M_valueOf 0 = .ok (.aload_n 0, 1) := by decide +kernel
theorem d_M_valueOf_1 : decode b_M_valueOf 1 = .ok (.getfield 82, 3) := by decide +kernel
theorem d_M_valueOf_4 : decode b_M_valueOf 4 = .ok (.iload_n 2, 1) := by decide +kernel
theorem d_M_valueOf_5 : decode b_M_valueOf 5 = .ok (.iaload, 1) := by decide +kernel
theorem d_M_valueOf_6 : decode b_M_valueOf 6 = .ok (.aload_n 0, 1) := by decide +kernel
theorem d_M_valueOf_7 : decode b_M_valueOf 7 = .ok (.getfield 7, 3) := by decide +kernel
theorem d_M_valueOf_10 : decode b_M_valueOf 10 = .ok (.aload_n 0, 1) := by decide +kernel
theorem d_M_valueOf_11 : decode b_M_valueOf 11 = .ok (.iload_n 1, 1) := by decide +kernel
theorem d_M_valueOf_12 : decode b_M_valueOf 12 = .ok (.aload_n 0, 1) := by decide +kernel
theorem d_M_valueOf_13 : decode b_M_valueOf 13 = .ok (.getfield 79, 3) := by decide +kernel
theorem d_M_valueOf_16 : decode b_M_valueOf 16 = .ok (.iload_n 2, 1) := by decide +kernel
theorem d_M_valueOf_17 : decode b_M_valueOf 17 = .ok (.iaload, 1) := by decide +kernel
theorem d_M_valueOf_18 : decode b_M_valueOf 18 = .ok (.invokevirtual 128, 3) := by decide +kernel
theorem d_M_valueOf_21 : decode b_M_valueOf 21 = .ok (.iaload, 1) := by decide +kernel
theorem d_M_valueOf_22 : decode b_M_valueOf 22 = .ok (.isub, 1) := by decide +kernel
theorem d_M_valueOf_23 : decode b_M_valueOf 23 = .ok (.sipush 1000, 3) := by decide +kernel
theorem d_M_valueOf_26 : decode b_M_valueOf 26 = .ok (.invokestatic 131, 3) := by decide +kernel
theorem d_M_valueOf_29 : decode b_M_valueOf 29 = .ok (.ireturn, 1) := by decide +kernel
theorem d_M_trapOf_0 : decode b_M_trapOf 0 = .ok (.aload_n 0, 1) := by decide +kernel
theorem d_M_trapOf_1 : decode b_M_trapOf 1 = .ok (.getfield 85, 3) := by decide +kernel
theorem d_M_trapOf_4 : decode b_M_trapOf 4 = .ok (.iload_n 2, 1) := by decide +kernel
theorem d_M_trapOf_5 : decode b_M_trapOf 5 = .ok (.iaload, 1) := by decide +kernel
theorem d_M_trapOf_6 : decode b_M_trapOf 6 = .ok (.aload_n 0, 1) := by decide +kernel
theorem d_M_trapOf_7 : decode b_M_trapOf 7 = .ok (.getfield 13, 3) := by decide +kernel
theorem d_M_trapOf_10 : decode b_M_trapOf 10 = .ok (.aload_n 0, 1) := by decide +kernel
theorem d_M_trapOf_11 : decode b_M_trapOf 11 = .ok (.iload_n 1, 1) := by decide +kernel
theorem d_M_trapOf_12 : decode b_M_trapOf 12 = .ok (.aload_n 0, 1) := by decide +kernel
theorem d_M_trapOf_13 : decode b_M_trapOf 13 = .ok (.getfield 79, 3) := by decide +kernel
theorem d_M_trapOf_16 : decode b_M_trapOf 16 = .ok (.iload_n 2, 1) := by decide +kernel
theorem d_M_trapOf_17 : decode b_M_trapOf 17 = .ok (.iaload, 1) := by decide +kernel
theorem d_M_trapOf_18 : decode b_M_trapOf 18 = .ok (.invokevirtual 128, 3) := by decide +kernel
theorem d_M_trapOf_21 : decode b_M_trapOf 21 = .ok (.iaload, 1) := by decide +kernel
theorem d_M_trapOf_22 : decode b_M_trapOf 22 = .ok (.isub, 1) := by decide +kernel
theorem d_M_trapOf_23 : decode b_M_trapOf 23 = .ok (.sipush 2473, 3) := by decide +kernel
theorem d_M_trapOf_26 : decode b_M_trapOf 26 = .ok (.invokestatic 131, 3) := by decide +kernel
theorem d_M_trapOf_29 : decode b_M_trapOf 29 = .ok (.ireturn, 1) := by decide +kernel

set_option maxHeartbeats 4000000 in
set_option maxRecDepth 100000 in
theorem c_M_times (l : Launch) (G : yG) (a b : Int) (h0 : 0 ≤ a * b) (h1 : a * b < 2147483648) : Met l y_M_times (Cond.code y_M_times b_M_times 2 (some .int) :: yT) ({ frames := 0, cells := 0, slots := 0, locals := 0 } : Room) (yP0 (yK G) [.int (J (a)), .int (J (b))]) (yQi (a * b % 10009)) 0 0 yN := by
  refine y_met (by decide +kernel) (Nat.le_of_ble_eq_true rfl) ?_
  intro p e s m below meth c ls hx hb hr hml hlocks hown hname hts hv hl
  have hA : ∀ w ∈ yT, w.before _ s = true := fun w h => hts w (List.mem_cons_of_mem _ h)
  have hl : lv_has ls 2 [(0, .int (J (a))), (1, .int (J (b)))] := hl
  have hK : yK G s := hv
  have hS : va_S yN s.heap s.heap [] := va_S.rf
  refine lv_iload_n hx hb d_M_times_0 rfl (lv_at hl 0 rfl) ?_
  refine lv_iload_n hx hb d_M_times_1 rfl (lv_at hl 1 rfl) ?_
  refine y_imul hx hb d_M_times_2 ?_
  refine lv_sipush (v := J (10009)) hx hb d_M_times_3 (by decide) ?_
  refine y_irem hx hb d_M_times_6 (by omega) (by omega) (by decide) ?_
  exact y_reti hx hb hr hlocks hS rfl d_M_times_7

set_option maxHeartbeats 4000000 in
set_option maxRecDepth 100000 in
theorem c_M_whole (l : Launch) (G : yG) (v : Int) (hv9 : jr v) : Met l y_M_whole (Cond.code y_M_whole b_M_whole 1 (some .int) :: yT) ({ frames := 0, cells := 0, slots := 0, locals := 0 } : Room) (yP0 (yK G) [.int (J (v))]) (yQi (v % 10009)) 0 0 yN := by
  refine y_met (by decide +kernel) (Nat.le_of_ble_eq_true rfl) ?_
  intro p e s m below meth c ls hx hb hr hml hlocks hown hname hts hv hl
  have hA : ∀ w ∈ yT, w.before _ s = true := fun w h => hts w (List.mem_cons_of_mem _ h)
  have hl : lv_has ls 1 [(0, .int (J (v)))] := hl
  have hK : yK G s := hv
  have hS : va_S yN s.heap s.heap [] := va_S.rf
  have h_r := j_tmod_rng (a := v) (d := 10009) (by decide)
  refine lv_iload_n hx hb d_M_whole_0 rfl (lv_at hl 0 rfl) ?_
  refine lv_sipush (v := J (10009)) hx hb d_M_whole_1 (by decide) ?_
  refine y_iremT hx hb d_M_whole_4 hv9 (by decide) ?_
  refine lv_sipush (v := J (10009)) hx hb d_M_whole_5 (by decide) ?_
  refine y_iadd hx hb d_M_whole_8 ?_
  refine lv_sipush (v := J (10009)) hx hb d_M_whole_9 (by decide) ?_
  refine y_irem hx hb d_M_whole_12 (by omega) (by omega) (by decide) ?_
  exact y_reti hx hb hr hlocks hS (j_rest (by decide)) d_M_whole_13

set_option maxHeartbeats 4000000 in
set_option maxRecDepth 100000 in
theorem c_M_rest (l : Launch) (G : yG) (v d : Int) (hv9 : jr v) (hd : 0 < d ∧ d < 1000000) : Met l y_M_rest (Cond.code y_M_rest b_M_rest 2 (some .int) :: yT) ({ frames := 0, cells := 0, slots := 0, locals := 0 } : Room) (yP0 (yK G) [.int (J (v)), .int (J (d))]) (yQi (v % d)) 0 0 yN := by
  refine y_met (by decide +kernel) (Nat.le_of_ble_eq_true rfl) ?_
  intro p e s m below meth c ls hx hb hr hml hlocks hown hname hts hv hl
  have hA : ∀ w ∈ yT, w.before _ s = true := fun w h => hts w (List.mem_cons_of_mem _ h)
  have hl : lv_has ls 2 [(0, .int (J (v))), (1, .int (J (d)))] := hl
  have hK : yK G s := hv
  have hS : va_S yN s.heap s.heap [] := va_S.rf
  have h_r := j_tmod_rng (a := v) (d := d) hd.1
  refine lv_iload_n hx hb d_M_rest_0 rfl (lv_at hl 0 rfl) ?_
  refine lv_iload_n hx hb d_M_rest_1 rfl (lv_at hl 1 rfl) ?_
  refine y_iremT hx hb d_M_rest_2 hv9 ⟨by omega, by omega⟩ ?_
  refine lv_iload_n hx hb d_M_rest_3 rfl (lv_at hl 1 rfl) ?_
  refine y_iadd hx hb d_M_rest_4 ?_
  refine lv_iload_n hx hb d_M_rest_5 rfl (lv_at hl 1 rfl) ?_
  refine y_irem hx hb d_M_rest_6 (by omega) (by omega) ⟨by omega, by omega⟩ ?_
  exact y_reti hx hb hr hlocks hS (j_rest hd.1) d_M_rest_7

set_option maxHeartbeats 4000000 in
set_option maxRecDepth 100000 in
theorem c_M_in (l : Launch) (G : yG) (v a b : Int) (hv9 : jr v) (ha : jr a) (hb9 : jr b) : Met l y_M_in (Cond.code y_M_in b_M_in 3 (some .boolean) :: yT) ({ frames := 0, cells := 0, slots := 0, locals := 0 } : Room) (yP0 (yK G) [.int (J (v)), .int (J (a)), .int (J (b))]) (yQi (if a ≤ v ∧ v ≤ b then 1 else 0)) 0 0 yN := by
  refine y_met (by decide +kernel) (Nat.le_of_ble_eq_true rfl) ?_
  intro p e s m below meth c ls hx hb hr hml hlocks hown hname hts hv hl
  have hA : ∀ w ∈ yT, w.before _ s = true := fun w h => hts w (List.mem_cons_of_mem _ h)
  have hl : lv_has ls 3 [(0, .int (J (v))), (1, .int (J (a))), (2, .int (J (b)))] := hl
  have hK : yK G s := hv
  have hS : va_S yN s.heap s.heap [] := va_S.rf
  refine lv_iload_n hx hb d_M_in_0 rfl (lv_at hl 0 rfl) ?_
  refine lv_iload_n hx hb d_M_in_1 rfl (lv_at hl 1 rfl) ?_
  refine y_icmp_lt (tgt := 14) hx hb d_M_in_2 (by decide) hv9 ha (fun hc1 => ?_) (fun hc1 => ?_)
  · skip
    refine lv_iconst (v := J (0)) hx hb d_M_in_14 rfl ?_
    exact y_retz hx hb hr hlocks hS (Or.inl rfl) (if_neg (by omega)).symm d_M_in_15
  · skip
    refine lv_iload_n hx hb d_M_in_5 rfl (lv_at hl 0 rfl) ?_
    refine lv_iload_n hx hb d_M_in_6 rfl (lv_at hl 2 rfl) ?_
    refine y_icmp_gt (tgt := 14) hx hb d_M_in_7 (by decide) hv9 hb9 (fun hc2 => ?_) (fun hc2 => ?_)
    · skip
      refine lv_iconst (v := J (0)) hx hb d_M_in_14 rfl ?_
      exact y_retz hx hb hr hlocks hS (Or.inl rfl) (if_neg (by omega)).symm d_M_in_15
    · skip
      refine lv_iconst (v := J (1)) hx hb d_M_in_10 rfl ?_
      refine lv_goto (tgt := 15) hx hb d_M_in_11 (by decide) ?_
      exact y_retz hx hb hr hlocks hS (Or.inr rfl) (if_pos (by omega)).symm d_M_in_15

set_option maxHeartbeats 4000000 in
set_option maxRecDepth 100000 in
theorem c_M_isScalar (l : Launch) (G : yG) (n : Int) (hn : jr n) : Met l y_M_isScalar (Cond.code y_M_isScalar b_M_isScalar 1 (some .boolean) :: yT) ({ frames := 0, cells := 0, slots := 0, locals := 0 } : Room) (yP0 (yK G) [.int (J (n))]) (yQi (if 0 ≤ n ∧ n < 2473 then 1 else 0)) 0 0 yN := by
  refine y_met (by decide +kernel) (Nat.le_of_ble_eq_true rfl) ?_
  intro p e s m below meth c ls hx hb hr hml hlocks hown hname hts hv hl
  have hA : ∀ w ∈ yT, w.before _ s = true := fun w h => hts w (List.mem_cons_of_mem _ h)
  have hl : lv_has ls 1 [(0, .int (J (n)))] := hl
  have hK : yK G s := hv
  have hS : va_S yN s.heap s.heap [] := va_S.rf
  refine lv_iload_n hx hb d_M_isScalar_0 rfl (lv_at hl 0 rfl) ?_
  refine y_if_lt (tgt := 15) hx hb d_M_isScalar_1 (by decide) ⟨by omega, by omega⟩ (fun hc1 => ?_) (fun hc1 => ?_)
  · skip
    refine lv_iconst (v := J (0)) hx hb d_M_isScalar_15 rfl ?_
    exact y_retz hx hb hr hlocks hS (Or.inl rfl) (if_neg (by omega)).symm d_M_isScalar_16
  · skip
    refine lv_iload_n hx hb d_M_isScalar_4 rfl (lv_at hl 0 rfl) ?_
    refine lv_sipush (v := J (2473)) hx hb d_M_isScalar_5 (by decide) ?_
    refine y_icmp_ge (tgt := 15) hx hb d_M_isScalar_8 (by decide) ⟨by omega, by omega⟩ ⟨by omega, by omega⟩ (fun hc2 => ?_) (fun hc2 => ?_)
    · skip
      refine lv_iconst (v := J (0)) hx hb d_M_isScalar_15 rfl ?_
      exact y_retz hx hb hr hlocks hS (Or.inl rfl) (if_neg (by omega)).symm d_M_isScalar_16
    · skip
      refine lv_iconst (v := J (1)) hx hb d_M_isScalar_11 rfl ?_
      refine lv_goto (tgt := 16) hx hb d_M_isScalar_12 (by decide) ?_
      exact y_retz hx hb hr hlocks hS (Or.inr rfl) (if_pos (by omega)).symm d_M_isScalar_16

set_option maxHeartbeats 4000000 in
set_option maxRecDepth 100000 in
theorem c_M_cover (l : Launch) (G : yG) (v w : Int) (hv9 : 0 ≤ v ∧ v < 100000) (hw9 : 0 ≤ w ∧ w < 100000) : Met l y_M_cover (Cond.code y_M_cover b_M_cover 2 (some .int) :: yT) ({ frames := 0, cells := 0, slots := 0, locals := 0 } : Room) (yP0 (yK G) [.int (J (v)), .int (J (w))]) (yQi ((v * 1281 + w * 1369) % 2473)) 0 0 yN := by
  refine y_met (by decide +kernel) (Nat.le_of_ble_eq_true rfl) ?_
  intro p e s m below meth c ls hx hb hr hml hlocks hown hname hts hv hl
  have hA : ∀ w ∈ yT, w.before _ s = true := fun w h => hts w (List.mem_cons_of_mem _ h)
  have hl : lv_has ls 2 [(0, .int (J (v))), (1, .int (J (w)))] := hl
  have hK : yK G s := hv
  have hS : va_S yN s.heap s.heap [] := va_S.rf
  refine lv_iload_n hx hb d_M_cover_0 rfl (lv_at hl 0 rfl) ?_
  refine lv_sipush (v := J (1281)) hx hb d_M_cover_1 (by decide) ?_
  refine y_imul hx hb d_M_cover_4 ?_
  refine lv_iload_n hx hb d_M_cover_5 rfl (lv_at hl 1 rfl) ?_
  refine lv_sipush (v := J (1369)) hx hb d_M_cover_6 (by decide) ?_
  refine y_imul hx hb d_M_cover_9 ?_
  refine y_iadd hx hb d_M_cover_10 ?_
  refine lv_sipush (v := J (2473)) hx hb d_M_cover_11 (by decide) ?_
  refine y_irem hx hb d_M_cover_14 (by omega) (by omega) (by decide) ?_
  exact y_reti hx hb hr hlocks hS rfl d_M_cover_15

set_option maxHeartbeats 4000000 in
set_option maxRecDepth 100000 in
theorem c_M_power (l : Launch) (G : yG) (a : Nat) (ha : a < 10009) : Met l y_M_power (Cond.code y_M_power b_M_power 4 (some .int) :: yT) ({ frames := 1, cells := 0, slots := 0, locals := 21 } : Room) (yP0 (yK G) [.int (J ((a : Int))), .int (J (10007))]) (yQi (((cv_miv a : Nat) : Int))) 0 0 yN := by
  refine y_met (by decide +kernel) (Nat.le_of_ble_eq_true rfl) ?_
  intro p e s m below meth c ls hx hb hr hml hlocks hown hname hts hv hl
  have hA : ∀ w ∈ yT, w.before _ s = true := fun w h => hts w (List.mem_cons_of_mem _ h)
  have hl : lv_has ls 4 [(0, .int (J ((a : Int)))), (1, .int (J (10007)))] := hl
  have hK : yK G s := hv
  have hS : va_S yN s.heap s.heap [] := va_S.rf
  refine lv_iconst (v := J (1)) hx hb d_M_power_0 rfl ?_
  refine lv_istore_n (lv' := [(2, .int (J (1))), (0, .int (J ((a : Int)))), (1, .int (J (10007)))]) hx hb d_M_power_1 rfl hl (by decide) rfl (fun ls hl => ?_)
  refine lv_bipush (v := J (13)) hx hb d_M_power_2 (by decide) ?_
  refine lv_istore_n (lv' := [(3, .int (J (13))), (2, .int (J (1))), (0, .int (J ((a : Int)))), (1, .int (J (10007)))]) hx hb d_M_power_4 rfl hl (by decide) rfl (fun ls hl => ?_)
  have loop5 : ∀ (q9 t : Nat), t + q9 = 14 → ∀ (ls : Array Slot) (H : Heap) (locs : List Loc), va_S yN s.heap H locs → lv_has ls 4 [(3, .int (J (13 - ((t : Nat) : Int)))), (2, .int (J (((cv_mpw a t : Nat) : Int)))), (0, .int (J ((a : Int)))), (1, .int (J (10007)))] → W p l e ({ frames := 1, cells := 0, slots := 0, locals := 21 } : Room) s m ([.int (J ((a : Int))), .int (J (10007))] : List Value).toArray below meth c H locs 0 0 (MQ below (yQi (((cv_miv a : Nat) : Int))) ([.int (J ((a : Int))), .int (J (10007))] : List Value).toArray s 0 0 yN) (F0 m 5 ls []) := by
    intro q9
    induction q9 with
    | zero =>
      intro t htk ls H locs hS hl
      have h14 : t = 14 := by omega
      subst h14
      refine lv_iload_n hx hb d_M_power_5 rfl (lv_at hl 0 rfl) ?_
      refine y_if_lt (tgt := 40) hx hb d_M_power_6 (by decide) ⟨by omega, by omega⟩ (fun hc1 => ?_) (fun hc1 => absurd hc1 (by omega))
      refine lv_iload_n hx hb d_M_power_40 rfl (lv_at hl 1 rfl) ?_
      exact y_reti hx hb hr hlocks hS (by rw [cv_mpw_miv ha]) d_M_power_41
    | succ q9 ih =>
      intro t htk ls H locs hS hl
      have hr1 := cv_mpw_lt a t
      have hm1 := j_mb (x := ((cv_mpw a t : Nat) : Int)) (y := ((cv_mpw a t : Nat) : Int)) ⟨by omega, by omega⟩ ⟨by omega, by omega⟩
      have hm2 := j_mb (x := ((cv_mpw a t : Nat) : Int) * ((cv_mpw a t : Nat) : Int) % 10009) (y := (a : Int)) ⟨by omega, by omega⟩ ⟨by omega, by omega⟩
      have hdiv : (10007 : Int) / 2 ^ (13 - t) = ((10007 / 2 ^ (13 - t) : Nat) : Int) := by rw [Int.natCast_ediv, Int.natCast_pow]; rfl
      have hdle : 10007 / 2 ^ (13 - t) ≤ 10007 := Nat.div_le_self _ _
      have eq1 : ((cv_mq (cv_mpw a t) : Nat) : Int) = ((cv_mpw a t : Nat) : Int) * ((cv_mpw a t : Nat) : Int) % 10009 := by unfold cv_mq; rw [Int.natCast_emod, Int.natCast_mul]; rfl
      refine lv_iload_n hx hb d_M_power_5 rfl (lv_at hl 0 rfl) ?_
      refine y_if_lt (tgt := 40) hx hb d_M_power_6 (by decide) ⟨by omega, by omega⟩ (fun hc2 => absurd hc2 (by omega)) (fun hc2 => ?_)
      refine lv_iload_n hx hb d_M_power_9 rfl (lv_at hl 1 rfl) ?_
      refine lv_iload_n hx hb d_M_power_10 rfl (lv_at hl 1 rfl) ?_
      refine y_c0 (y_runS (As := [.int (J (((cv_mpw a t : Nat) : Int))), .int (J (((cv_mpw a t : Nat) : Int)))]) (rest := []) ⟨hx, hb, hml, hown, hts⟩ (c_M_times l G (((cv_mpw a t : Nat) : Int)) (((cv_mpw a t : Nat) : Int)) (by omega) (by omega)) 2 k_co_M_times k_ml_M_91 k_st_M_times k_in_M rfl rfl (by decide +kernel) ⟨Nat.le_of_ble_eq_true rfl, Nat.le_of_ble_eq_true rfl⟩ (yPs0 (yK_bl G) (yK_mv G) hK) rfl hl.1 rfl (Nat.le_of_ble_eq_true rfl) d_M_power_11 ⟨Nat.zero_le _, Nat.zero_le _⟩) hS (fun H locs _ _ hS => ?_)
      refine lv_istore_n (lv' := [(2, .int (J (((cv_mpw a t : Nat) : Int) * ((cv_mpw a t : Nat) : Int) % 10009))), (3, .int (J (13 - ((t : Nat) : Int)))), (0, .int (J ((a : Int)))), (1, .int (J (10007)))]) hx hb d_M_power_14 rfl hl (by decide) rfl (fun ls hl => ?_)
      refine lv_iload_n hx hb d_M_power_15 rfl (lv_at hl 3 rfl) ?_
      refine lv_iload_n hx hb d_M_power_16 rfl (lv_at hl 1 rfl) ?_
      refine y_ishr hx hb d_M_power_17 (13 - t) (by omega) (by omega) (by omega) (by omega) ?_
      refine lv_iconst (v := J (1)) hx hb d_M_power_18 rfl ?_
      refine y_iand1 hx hb d_M_power_19 (by rw [hdiv]; exact Int.natCast_nonneg _) (by rw [hdiv]; omega) ?_
      refine lv_iconst (v := J (1)) hx hb d_M_power_20 rfl ?_
      refine y_icmp_ne (tgt := 32) hx hb d_M_power_21 (by decide) ⟨by omega, by omega⟩ ⟨by omega, by omega⟩ (fun hbit => ?_) (fun hbit => ?_)
      · skip
        refine lv_iload_n hx hb d_M_power_32 rfl (lv_at hl 0 rfl) ?_
        refine lv_istore_n (lv' := [(2, .int (J (((cv_mpw a t : Nat) : Int) * ((cv_mpw a t : Nat) : Int) % 10009))), (3, .int (J (13 - ((t : Nat) : Int)))), (0, .int (J ((a : Int)))), (1, .int (J (10007)))]) hx hb d_M_power_33 rfl hl (by decide) rfl (fun ls hl => ?_)
        refine lv_iinc (k := 1) (v := J (13 - ((t : Nat) : Int) + (-1))) (lv' := [(3, .int (J (13 - ((t : Nat) : Int) + (-1)))), (2, .int (J (((cv_mpw a t : Nat) : Int) * ((cv_mpw a t : Nat) : Int) % 10009))), (0, .int (J ((a : Int)))), (1, .int (J (10007)))]) hx hb d_M_power_34 hl rfl (J_add _ _) (by decide) rfl (fun ls hl => ?_)
        refine lv_goto (tgt := 5) hx hb d_M_power_37 (by decide) ?_
        refine ih (t + 1) (by omega) ls H locs hS ?_
        have e1 : ((cv_mpw a (t + 1) : Nat) : Int) = ((cv_mpw a t : Nat) : Int) * ((cv_mpw a t : Nat) : Int) % 10009 := by
          show (((if 10007 / 2 ^ (13 - t) % 2 = 1 then cv_mq (cv_mpw a t) * a % 10009 else cv_mq (cv_mpw a t) : Nat)) : Int) = _
          rw [if_neg (by rw [hdiv] at hbit; omega), eq1]
        rw [e1, show (13 : Int) - ((t + 1 : Nat) : Int) = 13 - (t : Int) + (-1) by omega]
        exact hl
      · skip
        refine lv_iload_n hx hb d_M_power_24 rfl (lv_at hl 0 rfl) ?_
        refine lv_iload_n hx hb d_M_power_25 rfl (lv_at hl 2 rfl) ?_
        refine y_c0 (y_runS (As := [.int (J (((cv_mpw a t : Nat) : Int) * ((cv_mpw a t : Nat) : Int) % 10009)), .int (J ((a : Int)))]) (rest := []) ⟨hx, hb, hml, hown, hts⟩ (c_M_times l G (((cv_mpw a t : Nat) : Int) * ((cv_mpw a t : Nat) : Int) % 10009) ((a : Int)) (by omega) (by omega)) 2 k_co_M_times k_ml_M_91 k_st_M_times k_in_M rfl rfl (by decide +kernel) ⟨Nat.le_of_ble_eq_true rfl, Nat.le_of_ble_eq_true rfl⟩ (yPs0 (yK_bl G) (yK_mv G) hK) rfl hl.1 rfl (Nat.le_of_ble_eq_true rfl) d_M_power_26 ⟨Nat.zero_le _, Nat.zero_le _⟩) hS (fun H locs _ _ hS => ?_)
        refine lv_goto (tgt := 33) hx hb d_M_power_29 (by decide) ?_
        refine lv_istore_n (lv' := [(2, .int (J ((((cv_mpw a t : Nat) : Int) * ((cv_mpw a t : Nat) : Int) % 10009) * (a : Int) % 10009))), (3, .int (J (13 - ((t : Nat) : Int)))), (0, .int (J ((a : Int)))), (1, .int (J (10007)))]) hx hb d_M_power_33 rfl hl (by decide) rfl (fun ls hl => ?_)
        refine lv_iinc (k := 1) (v := J (13 - ((t : Nat) : Int) + (-1))) (lv' := [(3, .int (J (13 - ((t : Nat) : Int) + (-1)))), (2, .int (J ((((cv_mpw a t : Nat) : Int) * ((cv_mpw a t : Nat) : Int) % 10009) * (a : Int) % 10009))), (0, .int (J ((a : Int)))), (1, .int (J (10007)))]) hx hb d_M_power_34 hl rfl (J_add _ _) (by decide) rfl (fun ls hl => ?_)
        refine lv_goto (tgt := 5) hx hb d_M_power_37 (by decide) ?_
        refine ih (t + 1) (by omega) ls H locs hS ?_
        have e1 : ((cv_mpw a (t + 1) : Nat) : Int) = (((cv_mpw a t : Nat) : Int) * ((cv_mpw a t : Nat) : Int) % 10009) * (a : Int) % 10009 := by
          show (((if 10007 / 2 ^ (13 - t) % 2 = 1 then cv_mq (cv_mpw a t) * a % 10009 else cv_mq (cv_mpw a t) : Nat)) : Int) = _
          rw [if_pos (by rw [hdiv] at hbit; omega), Int.natCast_emod, Int.natCast_mul, eq1]; rfl
        rw [e1, show (13 : Int) - ((t + 1 : Nat) : Int) = 13 - (t : Int) + (-1) by omega]
        exact hl
  exact loop5 14 0 rfl ls _ _ hS hl

set_option maxHeartbeats 4000000 in
set_option maxRecDepth 100000 in
theorem c_M_hash (l : Launch) (G : yG) (z : Nat) (τ : yM) (hTb : mTb τ) (a b k : Int) (ha : 0 ≤ a ∧ a < 10009) (hb9 : 0 ≤ b ∧ b < 10009) (hk9 : 0 ≤ k ∧ k < 100) : Met l y_M_hash (Cond.code y_M_hash b_M_hash 4 (some .int) :: yT) ({ frames := 0, cells := 0, slots := 0, locals := 0 } : Room) (yP ycl G yLM 0 28 z τ (yK G) [.ref (z + 0), .int (J (a)), .int (J (b)), .int (J (k))]) (yQi (eX (a * 2409 + b * 1499 + k))) 0 0 yN := by
  refine y_met (by decide +kernel) (Nat.le_of_ble_eq_true rfl) ?_
  intro p e s m below meth c ls hx hb hr hml hlocks hown hname hts hv hl
  have hA : ∀ w ∈ yT, w.before _ s = true := fun w h => hts w (List.mem_cons_of_mem _ h)
  have hl : lv_has ls 4 [(0, .ref (z + 0)), (1, .int (J (a))), (2, .int (J (b))), (3, .int (J (k)))] := hl
  obtain ⟨hW, hK⟩ := hv
  have hS : va_S yN s.heap s.heap [] := va_S.rf
  refine lv_aload_n hx hb d_M_hash_0 rfl (lv_at hl 0 rfl) ?_
  refine y_getr hx hb hA in_M hown hK.1 hW 0 (by omega) laym_0 rfl 0 (by decide) (hA _ k_fl_M_7) rfl d_M_hash_1 ?_
  refine lv_iload_n hx hb d_M_hash_4 rfl (lv_at hl 1 rfl) ?_
  refine lv_sipush (v := J (2409)) hx hb d_M_hash_5 (by decide) ?_
  refine y_imul hx hb d_M_hash_8 ?_
  refine lv_iload_n hx hb d_M_hash_9 rfl (lv_at hl 2 rfl) ?_
  refine lv_sipush (v := J (1499)) hx hb d_M_hash_10 (by decide) ?_
  refine y_imul hx hb d_M_hash_13 ?_
  refine y_iadd hx hb d_M_hash_14 ?_
  refine lv_iload_n hx hb d_M_hash_15 rfl (lv_at hl 3 rfl) ?_
  refine y_iadd hx hb d_M_hash_16 ?_
  refine lv_sipush (v := J (2473)) hx hb d_M_hash_17 (by decide) ?_
  refine y_irem hx hb d_M_hash_20 (by omega) (by omega) (by decide) ?_
  obtain ⟨m9, e_m9⟩ : ∃ q : Nat, (q : Int) = (((a * 2409) + (b * 1499)) + k) % 2473 := ⟨((((a * 2409) + (b * 1499)) + k) % 2473).toNat, by omega⟩
  refine y_iald hx hb hK.1 hW 1 (by omega) laym_1 rfl (by decide) m9 (by omega) (by omega) d_M_hash_21 ?_
  rw [mT_x hTb e_m9]
  exact y_reti hx hb hr hlocks hS rfl d_M_hash_22

set_option maxHeartbeats 4000000 in
set_option maxRecDepth 100000 in
theorem c_M_commitment (l : Launch) (G : yG) (z : Nat) (τ : yM) (hTb : mTb τ) (kn : Nat) (hkn : kn < 4) (k : Int) (hk9 : k = (kn : Int)) (hs9 : 0 ≤ τ 3 kn ∧ τ 3 kn < 2473) (v t : Int) (hv9 : 0 ≤ v ∧ v < 10009) (ht9 : 0 ≤ t ∧ t < 10009) : Met l y_M_commitment (Cond.code y_M_commitment b_M_commitment 4 (some .int) :: yT) ({ frames := 0, cells := 0, slots := 0, locals := 0 } : Room) (yP ycl G yLM 0 28 z τ (yK G) [.ref (z + 0), .int (J (k)), .int (J (v)), .int (J (t))]) (yQi (eX (v * 1281 + t * 1369 + τ 3 kn))) 0 0 yN := by
  refine y_met (by decide +kernel) (Nat.le_of_ble_eq_true rfl) ?_
  intro p e s m below meth c ls hx hb hr hml hlocks hown hname hts hv hl
  have hA : ∀ w ∈ yT, w.before _ s = true := fun w h => hts w (List.mem_cons_of_mem _ h)
  have hl : lv_has ls 4 [(0, .ref (z + 0)), (1, .int (J (k))), (2, .int (J (v))), (3, .int (J (t)))] := hl
  obtain ⟨hW, hK⟩ := hv
  have hS : va_S yN s.heap s.heap [] := va_S.rf
  refine lv_aload_n hx hb d_M_commitment_0 rfl (lv_at hl 0 rfl) ?_
  refine y_getr hx hb hA in_M hown hK.1 hW 0 (by omega) laym_0 rfl 0 (by decide) (hA _ k_fl_M_7) rfl d_M_commitment_1 ?_
  refine lv_iload_n hx hb d_M_commitment_4 rfl (lv_at hl 2 rfl) ?_
  refine lv_sipush (v := J (1281)) hx hb d_M_commitment_5 (by decide) ?_
  refine y_imul hx hb d_M_commitment_8 ?_
  refine lv_iload_n hx hb d_M_commitment_9 rfl (lv_at hl 3 rfl) ?_
  refine lv_sipush (v := J (1369)) hx hb d_M_commitment_10 (by decide) ?_
  refine y_imul hx hb d_M_commitment_13 ?_
  refine y_iadd hx hb d_M_commitment_14 ?_
  refine lv_aload_n hx hb d_M_commitment_15 rfl (lv_at hl 0 rfl) ?_
  refine y_getr hx hb hA in_M hown hK.1 hW 0 (by omega) laym_0 rfl 3 (by decide) (hA _ k_fl_M_16) rfl d_M_commitment_16 ?_
  refine lv_iload_n hx hb d_M_commitment_19 rfl (lv_at hl 1 rfl) ?_
  refine y_iald hx hb hK.1 hW 3 (by omega) laym_3 rfl (by decide) kn hk9 (by omega) d_M_commitment_20 ?_
  refine y_iadd hx hb d_M_commitment_21 ?_
  refine lv_sipush (v := J (2473)) hx hb d_M_commitment_22 (by decide) ?_
  refine y_irem hx hb d_M_commitment_25 (by omega) (by omega) (by decide) ?_
  obtain ⟨m9, e_m9⟩ : ∃ q : Nat, (q : Int) = (((v * 1281) + (t * 1369)) + (τ 3 kn)) % 2473 := ⟨((((v * 1281) + (t * 1369)) + (τ 3 kn)) % 2473).toNat, by omega⟩
  refine y_iald hx hb hK.1 hW 1 (by omega) laym_1 rfl (by decide) m9 (by omega) (by omega) d_M_commitment_26 ?_
  rw [mT_x hTb e_m9]
  exact y_reti hx hb hr hlocks hS rfl d_M_commitment_27

set_option maxHeartbeats 4000000 in
set_option maxRecDepth 100000 in
theorem c_M_nullifier (l : Launch) (G : yG) (z : Nat) (τ : yM) (hTb : mTb τ) (kn : Nat) (hkn : kn < 4) (k : Int) (hk9 : k = (kn : Int)) (hs9 : 0 ≤ τ 3 kn ∧ τ 3 kn < 2473) (i : Int) (hi9 : 0 ≤ i ∧ i < 100) : Met l y_M_nullifier (Cond.code y_M_nullifier b_M_nullifier 3 (some .int) :: yT) ({ frames := 1, cells := 0, slots := 0, locals := 23 } : Room) (yP ycl G yLM 0 28 z τ (yK G) [.ref (z + 0), .int (J (k)), .int (J (i))]) (yQi (eX (τ 3 kn * 2409 + (i + 1) * 1499 + 0))) 0 0 yN := by
  refine y_met (by decide +kernel) (Nat.le_of_ble_eq_true rfl) ?_
  intro p e s m below meth c ls hx hb hr hml hlocks hown hname hts hv hl
  have hA : ∀ w ∈ yT, w.before _ s = true := fun w h => hts w (List.mem_cons_of_mem _ h)
  have hl : lv_has ls 3 [(0, .ref (z + 0)), (1, .int (J (k))), (2, .int (J (i)))] := hl
  obtain ⟨hW, hK⟩ := hv
  have hS : va_S yN s.heap s.heap [] := va_S.rf
  refine lv_aload_n hx hb d_M_nullifier_0 rfl (lv_at hl 0 rfl) ?_
  refine lv_aload_n hx hb d_M_nullifier_1 rfl (lv_at hl 0 rfl) ?_
  refine y_getr hx hb hA in_M hown hK.1 hW 0 (by omega) laym_0 rfl 3 (by decide) (hA _ k_fl_M_16) rfl d_M_nullifier_2 ?_
  refine lv_iload_n hx hb d_M_nullifier_5 rfl (lv_at hl 1 rfl) ?_
  refine y_iald hx hb hK.1 hW 3 (by omega) laym_3 rfl (by decide) kn hk9 (by omega) d_M_nullifier_6 ?_
  refine lv_iload_n hx hb d_M_nullifier_7 rfl (lv_at hl 2 rfl) ?_
  refine lv_iconst (v := J (1)) hx hb d_M_nullifier_8 rfl ?_
  refine y_iadd hx hb d_M_nullifier_9 ?_
  refine lv_iconst (v := J (0)) hx hb d_M_nullifier_10 rfl ?_
  refine y_ci (y_runV (As := [.int (J (τ 3 kn)), .int (J (i + 1)), .int (J (0))]) (rest := []) ⟨hx, hb, hml, hown, hts⟩ (c_M_hash l G z τ hTb (τ 3 kn) (i + 1) (0) (by omega) (by omega) (by omega)) 3 k_co_M_hash k_ml_M_102 k_im_M_hash k_se_M_hash k_in_M rfl rfl (by decide +kernel) ⟨Nat.le_of_ble_eq_true rfl, Nat.le_of_ble_eq_true rfl⟩ (yPv (yK_bl G) (yK_mv G) hK hK.1 hW (by omega) laym_0 rfl (by omega) (by omega)) rfl hl.1 rfl (Nat.le_of_ble_eq_true rfl) d_M_nullifier_11 ⟨Nat.zero_le _, Nat.zero_le _⟩) hS hW (fun H locs hW hS => ?_)
  exact y_reti hx hb hr hlocks hS rfl d_M_nullifier_14

set_option maxHeartbeats 4000000 in
set_option maxRecDepth 100000 in
theorem c_M_shared (l : Launch) (G : yG) (z : Nat) (τ : yM) (kn : Nat) (hkn : kn < 4) (k : Int) (hk9 : k = (kn : Int)) (hs9 : 0 ≤ τ 3 kn ∧ τ 3 kn < 2473) (e9 : Int) (he9 : 0 ≤ e9 ∧ e9 < 2473) : Met l y_M_shared (Cond.code y_M_shared b_M_shared 3 (some .int) :: yT) ({ frames := 0, cells := 0, slots := 0, locals := 0 } : Room) (yP ycl G yLM 0 28 z τ (yK G) [.ref (z + 0), .int (J (k)), .int (J (e9))]) (yQi (τ 3 kn * e9 % 2473)) 0 0 yN := by
  refine y_met (by decide +kernel) (Nat.le_of_ble_eq_true rfl) ?_
  intro p e s m below meth c ls hx hb hr hml hlocks hown hname hts hv hl
  have hA : ∀ w ∈ yT, w.before _ s = true := fun w h => hts w (List.mem_cons_of_mem _ h)
  have hl : lv_has ls 3 [(0, .ref (z + 0)), (1, .int (J (k))), (2, .int (J (e9)))] := hl
  obtain ⟨hW, hK⟩ := hv
  have hS : va_S yN s.heap s.heap [] := va_S.rf
  have hmb := j_mb (x := τ 3 kn) (y := e9) ⟨by omega, by omega⟩ ⟨by omega, by omega⟩
  refine lv_aload_n hx hb d_M_shared_0 rfl (lv_at hl 0 rfl) ?_
  refine y_getr hx hb hA in_M hown hK.1 hW 0 (by omega) laym_0 rfl 3 (by decide) (hA _ k_fl_M_16) rfl d_M_shared_1 ?_
  refine lv_iload_n hx hb d_M_shared_4 rfl (lv_at hl 1 rfl) ?_
  refine y_iald hx hb hK.1 hW 3 (by omega) laym_3 rfl (by decide) kn hk9 (by omega) d_M_shared_5 ?_
  refine lv_iload_n hx hb d_M_shared_6 rfl (lv_at hl 2 rfl) ?_
  refine y_imul hx hb d_M_shared_7 ?_
  refine lv_sipush (v := J (2473)) hx hb d_M_shared_8 (by decide) ?_
  refine y_irem hx hb d_M_shared_11 (by omega) (by omega) (by decide) ?_
  exact y_reti hx hb hr hlocks hS rfl d_M_shared_12

set_option maxHeartbeats 4000000 in
set_option maxRecDepth 100000 in
theorem c_M_valueOf (l : Launch) (G : yG) (z : Nat) (τ : yM) (hTb : mTb τ) (kn : Nat) (hkn : kn < 4) (k : Int) (hk9 : k = (kn : Int)) (hs9 : 0 ≤ τ 3 kn ∧ τ 3 kn < 2473) (jn : Nat) (hjn : jn < 16) (i : Int) (hi9 : i = (jn : Int)) (hop : 0 ≤ τ 24 jn ∧ τ 24 jn < 2473) (hf9 : 0 ≤ τ 25 jn ∧ τ 25 jn < 1000) : Met l y_M_valueOf (Cond.code y_M_valueOf b_M_valueOf 3 (some .int) :: yT) ({ frames := 1, cells := 0, slots := 0, locals := 22 } : Room) (yP ycl G yLM 0 28 z τ (yK G) [.ref (z + 0), .int (J (k)), .int (J (i))]) (yQi (vOf (τ 3 kn) (τ 24 jn) (τ 25 jn))) 0 0 yN := by
  refine y_met (by decide +kernel) (Nat.le_of_ble_eq_true rfl) ?_
  intro p e s m below meth c ls hx hb hr hml hlocks hown hname hts hv hl
  have hA : ∀ w ∈ yT, w.before _ s = true := fun w h => hts w (List.mem_cons_of_mem _ h)
  have hl : lv_has ls 3 [(0, .ref (z + 0)), (1, .int (J (k))), (2, .int (J (i)))] := hl
  obtain ⟨hW, hK⟩ := hv
  have hS : va_S yN s.heap s.heap [] := va_S.rf
  refine lv_aload_n hx hb d_M_valueOf_0 rfl (lv_at hl 0 rfl) ?_
  refine y_getr hx hb hA in_M hown hK.1 hW 0 (by omega) laym_0 rfl 30 (by decide) (hA _ k_fl_M_82) rfl d_M_valueOf_1 ?_
  refine lv_iload_n hx hb d_M_valueOf_4 rfl (lv_at hl 2 rfl) ?_
  refine y_iald hx hb hK.1 hW 25 (by omega) laym_25 rfl (by decide) jn hi9 (by omega) d_M_valueOf_5 ?_
  refine lv_aload_n hx hb d_M_valueOf_6 rfl (lv_at hl 0 rfl) ?_
  refine y_getr hx hb hA in_M hown hK.1 hW 0 (by omega) laym_0 rfl 0 (by decide) (hA _ k_fl_M_7) rfl d_M_valueOf_7 ?_
  refine lv_aload_n hx hb d_M_valueOf_10 rfl (lv_at hl 0 rfl) ?_
  refine lv_iload_n hx hb d_M_valueOf_11 rfl (lv_at hl 1 rfl) ?_
  refine lv_aload_n hx hb d_M_valueOf_12 rfl (lv_at hl 0 rfl) ?_
  refine y_getr hx hb hA in_M hown hK.1 hW 0 (by omega) laym_0 rfl 29 (by decide) (hA _ k_fl_M_79) rfl d_M_valueOf_13 ?_
  refine lv_iload_n hx hb d_M_valueOf_16 rfl (lv_at hl 2 rfl) ?_
  refine y_iald hx hb hK.1 hW 24 (by omega) laym_24 rfl (by decide) jn hi9 (by omega) d_M_valueOf_17 ?_
  refine y_ci (y_runV (As := [.int (J (k)), .int (J (τ 24 jn))]) (rest := [.ref (z + 1), .int (J (τ 25 jn))]) ⟨hx, hb, hml, hown, hts⟩ (c_M_shared l G z τ kn hkn (k) hk9 hs9 (τ 24 jn) hop) 2 k_co_M_shared k_ml_M_128 k_im_M_shared k_se_M_shared k_in_M rfl rfl (by decide +kernel) ⟨Nat.le_of_ble_eq_true rfl, Nat.le_of_ble_eq_true rfl⟩ (yPv (yK_bl G) (yK_mv G) hK hK.1 hW (by omega) laym_0 rfl (by omega) (by omega)) rfl hl.1 rfl (Nat.le_of_ble_eq_true rfl) d_M_valueOf_18 ⟨Nat.zero_le _, Nat.zero_le _⟩) hS hW (fun H locs hW hS => ?_)
  obtain ⟨m9, e_m9⟩ : ∃ q : Nat, (q : Int) = τ 3 kn * (τ 24 jn) % 2473 := ⟨(τ 3 kn * (τ 24 jn) % 2473).toNat, by omega⟩
  refine y_iald hx hb hK.1 hW 1 (by omega) laym_1 rfl (by decide) m9 (by omega) (by omega) d_M_valueOf_21 ?_
  have hX := eX_rng (τ 3 kn * τ 24 jn)
  rw [mT_x hTb e_m9]
  refine y_isub hx hb d_M_valueOf_22 ?_
  refine lv_sipush (v := J (1000)) hx hb d_M_valueOf_23 (by decide) ?_
  refine y_ci (y_runS (As := [.int (J ((τ 25 jn) - (eX (τ 3 kn * τ 24 jn)))), .int (J (1000))]) (rest := []) ⟨hx, hb, hml, hown, hts⟩ (c_M_rest l G ((τ 25 jn) - (eX (τ 3 kn * τ 24 jn))) (1000) ⟨by omega, by omega⟩ ⟨by omega, by omega⟩) 2 k_co_M_rest k_ml_M_131 k_st_M_rest k_in_M rfl rfl (by decide +kernel) ⟨Nat.le_of_ble_eq_true rfl, Nat.le_of_ble_eq_true rfl⟩ (yPs0 (yK_bl G) (yK_mv G) hK) rfl hl.1 rfl (Nat.le_of_ble_eq_true rfl) d_M_valueOf_26 ⟨Nat.zero_le _, Nat.zero_le _⟩) hS hW (fun H locs hW hS => ?_)
  exact y_reti hx hb hr hlocks hS rfl d_M_valueOf_29

set_option maxHeartbeats 4000000 in
set_option maxRecDepth 100000 in
theorem c_M_trapOf (l : Launch) (G : yG) (z : Nat) (τ : yM) (hTb : mTb τ) (kn : Nat) (hkn : kn < 4) (k : Int) (hk9 : k = (kn : Int)) (hs9 : 0 ≤ τ 3 kn ∧ τ 3 kn < 2473) (jn : Nat) (hjn : jn < 16) (i : Int) (hi9 : i = (jn : Int)) (hop : 0 ≤ τ 24 jn ∧ τ 24 jn < 2473) (hf9 : 0 ≤ τ 26 jn ∧ τ 26 jn < 2473) : Met l y_M_trapOf (Cond.code y_M_trapOf b_M_trapOf 3 (some .int) :: yT) ({ frames := 1, cells := 0, slots := 0, locals := 22 } : Room) (yP ycl G yLM 0 28 z τ (yK G) [.ref (z + 0), .int (J (k)), .int (J (i))]) (yQi (tOf (τ 3 kn) (τ 24 jn) (τ 26 jn))) 0 0 yN := by
  refine y_met (by decide +kernel) (Nat.le_of_ble_eq_true rfl) ?_
  intro p e s m below meth c ls hx hb hr hml hlocks hown hname hts hv hl
  have hA : ∀ w ∈ yT, w.before _ s = true := fun w h => hts w (List.mem_cons_of_mem _ h)
  have hl : lv_has ls 3 [(0, .ref (z + 0)), (1, .int (J (k))), (2, .int (J (i)))] := hl
  obtain ⟨hW, hK⟩ := hv
  have hS : va_S yN s.heap s.heap [] := va_S.rf
  refine lv_aload_n hx hb d_M_trapOf_0 rfl (lv_at hl 0 rfl) ?_
  refine y_getr hx hb hA in_M hown hK.1 hW 0 (by omega) laym_0 rfl 31 (by decide) (hA _ k_fl_M_85) rfl d_M_trapOf_1 ?_
  refine lv_iload_n hx hb d_M_trapOf_4 rfl (lv_at hl 2 rfl) ?_
  refine y_iald hx hb hK.1 hW 26 (by omega) laym_26 rfl (by decide) jn hi9 (by omega) d_M_trapOf_5 ?_
  refine lv_aload_n hx hb d_M_trapOf_6 rfl (lv_at hl 0 rfl) ?_
  refine y_getr hx hb hA in_M hown hK.1 hW 0 (by omega) laym_0 rfl 1 (by decide) (hA _ k_fl_M_13) rfl d_M_trapOf_7 ?_
  refine lv_aload_n hx hb d_M_trapOf_10 rfl (lv_at hl 0 rfl) ?_
  refine lv_iload_n hx hb d_M_trapOf_11 rfl (lv_at hl 1 rfl) ?_
  refine lv_aload_n hx hb d_M_trapOf_12 rfl (lv_at hl 0 rfl) ?_
  refine y_getr hx hb hA in_M hown hK.1 hW 0 (by omega) laym_0 rfl 29 (by decide) (hA _ k_fl_M_79) rfl d_M_trapOf_13 ?_
  refine lv_iload_n hx hb d_M_trapOf_16 rfl (lv_at hl 2 rfl) ?_
  refine y_iald hx hb hK.1 hW 24 (by omega) laym_24 rfl (by decide) jn hi9 (by omega) d_M_trapOf_17 ?_
  refine y_ci (y_runV (As := [.int (J (k)), .int (J (τ 24 jn))]) (rest := [.ref (z + 2), .int (J (τ 26 jn))]) ⟨hx, hb, hml, hown, hts⟩ (c_M_shared l G z τ kn hkn (k) hk9 hs9 (τ 24 jn) hop) 2 k_co_M_shared k_ml_M_128 k_im_M_shared k_se_M_shared k_in_M rfl rfl (by decide +kernel) ⟨Nat.le_of_ble_eq_true rfl, Nat.le_of_ble_eq_true rfl⟩ (yPv (yK_bl G) (yK_mv G) hK hK.1 hW (by omega) laym_0 rfl (by omega) (by omega)) rfl hl.1 rfl (Nat.le_of_ble_eq_true rfl) d_M_trapOf_18 ⟨Nat.zero_le _, Nat.zero_le _⟩) hS hW (fun H locs hW hS => ?_)
  obtain ⟨m9, e_m9⟩ : ∃ q : Nat, (q : Int) = τ 3 kn * (τ 24 jn) % 2473 := ⟨(τ 3 kn * (τ 24 jn) % 2473).toNat, by omega⟩
  refine y_iald hx hb hK.1 hW 2 (by omega) laym_2 rfl (by decide) m9 (by omega) (by omega) d_M_trapOf_21 ?_
  have hY := eY_rng (τ 3 kn * τ 24 jn)
  rw [mT_y hTb e_m9]
  refine y_isub hx hb d_M_trapOf_22 ?_
  refine lv_sipush (v := J (2473)) hx hb d_M_trapOf_23 (by decide) ?_
  refine y_ci (y_runS (As := [.int (J ((τ 26 jn) - (eY (τ 3 kn * τ 24 jn)))), .int (J (2473))]) (rest := []) ⟨hx, hb, hml, hown, hts⟩ (c_M_rest l G ((τ 26 jn) - (eY (τ 3 kn * τ 24 jn))) (2473) ⟨by omega, by omega⟩ ⟨by omega, by omega⟩) 2 k_co_M_rest k_ml_M_131 k_st_M_rest k_in_M rfl rfl (by decide +kernel) ⟨Nat.le_of_ble_eq_true rfl, Nat.le_of_ble_eq_true rfl⟩ (yPs0 (yK_bl G) (yK_mv G) hK) rfl hl.1 rfl (Nat.le_of_ble_eq_true rfl) d_M_trapOf_26 ⟨Nat.zero_le _, Nat.zero_le _⟩) hS hW (fun H locs hW hS => ?_)
  exact y_reti hx hb hr hlocks hS rfl d_M_trapOf_29
