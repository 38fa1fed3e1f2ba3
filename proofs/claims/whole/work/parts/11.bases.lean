/-! Where the cells of the pool lie. -/
def yLP : Nat → yL := fun c =>
  if c < 19 then (match c with
    | 0 => .inl (0, [some 1, some 12, some 17, some 43, some 52, none])
    | 1 => .inl (2, [some 2, some 4, some 6, some 8, some 10])
    | 2 => .inl (1, [some 3])
    | 3 => .inr (.inl (0, 12))
    | 4 => .inl (1, [some 5])
    | 5 => .inr (.inl (0, 12))
    | 6 => .inl (1, [some 7])
    | 7 => .inr (.inl (0, 12))
    | 8 => .inl (1, [some 9])
    | 9 => .inr (.inl (0, 12))
    | 10 => .inl (1, [some 11])
    | 11 => .inr (.inl (0, 12))
    | 12 => .inl (9, [some 1, some 13, some 14, some 15, some 16, none])
    | 13 => .inr (.inl (0, 31))
    | 14 => .inr (.inl (0, 16))
    | 15 => .inr (.inl (0, 16))
    | 16 => .inr (.inl (0, 16))
    | 17 => .inl (4, [some 18, none, none, none])
    | _ => .inr (.inr (5, 12, fun j => 19 + 2 * j)))
  else if c < 43 then (if c % 2 = 1 then .inl (3, [some (c + 1), none, none, none, none]) else .inr (.inl (0, 2)))
  else if c < 53 then (match c with
    | 43 => .inl (5, [some 44, some 45, none, none, none, none])
    | 44 => .inr (.inr (3, 2, fun j => 46 + 2 * j))
    | 45 => .inr (.inr (4, 2, fun j => 50 + j))
    | 46 => .inl (8, [none, none, none, none, none, none, some 47, none, none, none])
    | 47 => .inr (.inl (0, 4))
    | 48 => .inl (8, [none, none, none, none, none, none, some 49, none, none, none])
    | 49 => .inr (.inl (0, 4))
    | 50 => .inl (7, [none, none, none, none, none, none, none, none, none])
    | 51 => .inl (7, [none, none, none, none, none, none, none, none, none])
    | _ => .inr (.inr (2, 4, fun j => 53 + 5 * j)))
  else (match (c - 53) % 5 with
    | 0 => .inl (6, [none, none, some (c + 1), some (c + 2), some (c + 3), some (c + 4)])
    | 1 => .inr (.inl (1, 16))
    | _ => .inr (.inl (0, 16)))
theorem lay_0 : yLP 0 = .inl (0, [some 1, some 12, some 17, some 43, some 52, none]) := rfl
theorem lay_1 : yLP 1 = .inl (2, [some 2, some 4, some 6, some 8, some 10]) := rfl
theorem lay_2 : yLP 2 = .inl (1, [some 3]) := rfl
theorem lay_3 : yLP 3 = .inr (.inl (0, 12)) := rfl
theorem lay_4 : yLP 4 = .inl (1, [some 5]) := rfl
theorem lay_5 : yLP 5 = .inr (.inl (0, 12)) := rfl
theorem lay_6 : yLP 6 = .inl (1, [some 7]) := rfl
theorem lay_7 : yLP 7 = .inr (.inl (0, 12)) := rfl
theorem lay_8 : yLP 8 = .inl (1, [some 9]) := rfl
theorem lay_9 : yLP 9 = .inr (.inl (0, 12)) := rfl
theorem lay_10 : yLP 10 = .inl (1, [some 11]) := rfl
theorem lay_11 : yLP 11 = .inr (.inl (0, 12)) := rfl
theorem lay_12 : yLP 12 = .inl (9, [some 1, some 13, some 14, some 15, some 16, none]) := rfl
theorem lay_13 : yLP 13 = .inr (.inl (0, 31)) := rfl
theorem lay_14 : yLP 14 = .inr (.inl (0, 16)) := rfl
theorem lay_15 : yLP 15 = .inr (.inl (0, 16)) := rfl
theorem lay_16 : yLP 16 = .inr (.inl (0, 16)) := rfl
theorem lay_17 : yLP 17 = .inl (4, [some 18, none, none, none]) := rfl
theorem lay_18 : yLP 18 = .inr (.inr (5, 12, fun j => 19 + 2 * j)) := rfl
theorem lay_43 : yLP 43 = .inl (5, [some 44, some 45, none, none, none, none]) := rfl
theorem lay_44 : yLP 44 = .inr (.inr (3, 2, fun j => 46 + 2 * j)) := rfl
theorem lay_45 : yLP 45 = .inr (.inr (4, 2, fun j => 50 + j)) := rfl
theorem lay_52 : yLP 52 = .inr (.inr (2, 4, fun j => 53 + 5 * j)) := rfl
theorem lay_Block {n : Nat} (h : n < 12) : yLP (19 + 2 * n) = .inl (3, [some (19 + 2 * n + 1), none, none, none, none]) := by
  unfold yLP
  rw [if_neg (by omega), if_pos (by omega), if_pos (by omega)]
theorem lay_Bnul {n : Nat} (h : n < 12) : yLP (19 + 2 * n + 1) = .inr (.inl (0, 2)) := by
  unfold yLP
  rw [if_neg (by omega), if_pos (by omega), if_neg (by omega)]
theorem lay_Spend : ∀ {n : Nat}, n < 2 → yLP (46 + 2 * n) = .inl (8, [none, none, none, none, none, none, some (46 + 2 * n + 1), none, none, none])
  | 0, _ => rfl
  | 1, _ => rfl
theorem lay_path : ∀ {n : Nat}, n < 2 → yLP (46 + 2 * n + 1) = .inr (.inl (0, 4))
  | 0, _ => rfl
  | 1, _ => rfl
theorem lay_Output : ∀ {n : Nat}, n < 2 → yLP (50 + n) = .inl (7, [none, none, none, none, none, none, none, none, none])
  | 0, _ => rfl
  | 1, _ => rfl
theorem lay_Key : ∀ {n : Nat}, n < 4 → yLP (53 + 5 * n) = .inl (6, [none, none, some (53 + 5 * n + 1), some (53 + 5 * n + 2), some (53 + 5 * n + 3), some (53 + 5 * n + 4)])
  | 0, _ => rfl
  | 1, _ => rfl
  | 2, _ => rfl
  | 3, _ => rfl
theorem lay_Kfnd : ∀ {n : Nat}, n < 4 → yLP (53 + 5 * n + 1) = .inr (.inl (1, 16))
  | 0, _ => rfl
  | 1, _ => rfl
  | 2, _ => rfl
  | 3, _ => rfl
theorem lay_Kval : ∀ {n : Nat}, n < 4 → yLP (53 + 5 * n + 2) = .inr (.inl (0, 16))
  | 0, _ => rfl
  | 1, _ => rfl
  | 2, _ => rfl
  | 3, _ => rfl
theorem lay_Ktrp : ∀ {n : Nat}, n < 4 → yLP (53 + 5 * n + 3) = .inr (.inl (0, 16))
  | 0, _ => rfl
  | 1, _ => rfl
  | 2, _ => rfl
  | 3, _ => rfl
theorem lay_Knul : ∀ {n : Nat}, n < 4 → yLP (53 + 5 * n + 4) = .inr (.inl (0, 16))
  | 0, _ => rfl
  | 1, _ => rfl
  | 2, _ => rfl
  | 3, _ => rfl
theorem yA_all {z lo n : Nat} : ∀ d, lo ≤ d ∧ d < lo + n → yA z lo n (z + d) := fun d h => by
  unfold yA
  omega
theorem e_mm (n B : Int) : (n % 2473 * B) % 2473 = (B * n) % 2473 := by
  rw [Int.mul_comm B n, Int.mul_emod, Int.emod_emod, ← Int.mul_emod]
/-- the kept doubles of the five bases -/
def yBs (σ : yM) : Prop := ∀ b, b < 12 → σ 3 b = eE (2 ^ b * 1) ∧ σ 5 b = eE (2 ^ b * 1281) ∧ σ 7 b = eE (2 ^ b * 1369) ∧ σ 9 b = eE (2 ^ b * 2409) ∧ σ 11 b = eE (2 ^ b * 1499)

theorem d_Base_times_0 : decode b_Base_times 0 = .ok (.iload_n 1, 1) := by decide +kernel
theorem d_Base_times_1 : decode b_Base_times 1 = .ok (.sipush 2473, 3) := by decide +kernel
theorem d_Base_times_4 : decode b_Base_times 4 = .ok (.invokestatic 24, 3) := by decide +kernel
theorem d_Base_times_7 : decode b_Base_times 7 = .ok (.istore_n 2, 1) := by decide +kernel
theorem d_Base_times_8 : decode b_Base_times 8 = .ok (.iconst 1, 1) := by decide +kernel
theorem d_Base_times_9 : decode b_Base_times 9 = .ok (.istore_n 3, 1) := by decide +kernel
theorem d_Base_times_10 : decode b_Base_times 10 = .ok (.iconst 0, 1) := by decide +kernel
theorem d_Base_times_11 : decode b_Base_times 11 = .ok (.istore 4, 2) := by decide +kernel
theorem d_Base_times_13 : decode b_Base_times 13 = .ok (.iload 4, 2) := by decide +kernel
theorem d_Base_times_15 : decode b_Base_times 15 = .ok (.bipush 12, 2) := by decide +kernel
theorem d_Base_times_17 : decode b_Base_times 17 = .ok (.if_icmp .ge 31, 3) := by decide +kernel
theorem d_Base_times_20 : decode b_Base_times 20 = .ok (.iload_n 2, 1) := by decide +kernel
theorem d_Base_times_21 : decode b_Base_times 21 = .ok (.iload 4, 2) := by decide +kernel
theorem d_Base_times_23 : decode b_Base_times 23 = .ok (.ishr, 1) := by decide +kernel
theorem d_Base_times_24 : decode b_Base_times 24 = .ok (.iconst 1, 1) := by decide +kernel
theorem d_Base_times_25 : decode b_Base_times 25 = .ok (.iand, 1) := by decide +kernel
theorem d_Base_times_26 : decode b_Base_times 26 = .ok (.iconst 1, 1) := by decide +kernel
theorem d_Base_times_27 : decode b_Base_times 27 = .ok (.if_icmp .ne 15, 3) := by decide +kernel
theorem d_Base_times_30 : decode b_Base_times 30 = .ok (.iload_n 3, 1) := by decide +kernel
theorem d_Base_times_31 : decode b_Base_times 31 = .ok (.aload_n 0, 1) := by decide +kernel
theorem d_Base_times_32 : decode b_Base_times 32 = .ok (.getfield 9, 3) := by decide +kernel
theorem d_Base_times_35 : decode b_Base_times 35 = .ok (.iload 4, 2) := by decide +kernel
theorem d_Base_times_37 : decode b_Base_times 37 = .ok (.iaload, 1) := by decide +kernel
theorem d_Base_times_38 : decode b_Base_times 38 = .ok (.invokestatic 21, 3) := by decide +kernel
theorem d_Base_times_41 : decode b_Base_times 41 = .ok (.istore_n 3, 1) := by decide +kernel
theorem d_Base_times_42 : decode b_Base_times 42 = .ok (.iinc 4 1, 3) := by decide +kernel
theorem d_Base_times_45 : decode b_Base_times 45 = .ok (.goto (-32), 3) := by decide +kernel
theorem d_Base_times_48 : decode b_Base_times 48 = .ok (.iload_n 3, 1) := by decide +kernel
theorem d_Base_times_49 : decode b_Base_times 49 = .ok (.ireturn, 1) := by decide +kernel

set_option maxHeartbeats 4000000 in
set_option maxRecDepth 100000 in
theorem c_Base_times (l : Launch) (G : yG) (z : Nat) (σ : yM) (d : Nat) (B : Int) (hL1 : yLP d = .inl (1, [some (d + 1)])) (hL2 : yLP (d + 1) = .inr (.inl (0, 12))) (hd : 1 ≤ d ∧ d + 1 < 12) (hdb : ∀ b, b < 12 → σ (d + 1) b = eE (2 ^ b * B)) (n : Int) (hn : jr n) : Met l y_Base_times (Cond.code y_Base_times b_Base_times 5 (some .int) :: yT) ({ frames := 2, cells := 0, slots := 0, locals := 54 } : Room) (yP ycl G yLP 1 11 z σ (yK G) [.ref (z + d), .int (J (n))]) (yQi (eE (B * n))) 0 0 yN := by
  refine y_met (by decide +kernel) (Nat.le_of_ble_eq_true rfl) ?_
  intro p e s m below meth c ls hx hb hr hml hlocks hown hname hts hv hl
  have hA : ∀ w ∈ yT, w.before _ s = true := fun w h => hts w (List.mem_cons_of_mem _ h)
  have hl : lv_has ls 5 [(0, .ref (z + d)), (1, .int (J (n)))] := hl
  obtain ⟨hW, hK⟩ := hv
  have hS : va_S yN s.heap s.heap [] := va_S.rf
  refine lv_iload_n hx hb d_Base_times_0 rfl (lv_at hl 1 rfl) ?_
  refine lv_sipush (v := J (2473)) hx hb d_Base_times_1 (by decide) ?_
  refine y_ci (y_runS (As := [.int (J (n)), .int (J (2473))]) (rest := []) ⟨hx, hb, hml, hown, hts⟩ (c_floorMod l G (n) (2473) hn ⟨by omega, by omega⟩) 2 k_co_Math_floorMod k_ml_Base_24 k_st_Math_floorMod k_in_Math rfl rfl (by decide +kernel) ⟨Nat.le_of_ble_eq_true rfl, Nat.le_of_ble_eq_true rfl⟩ (yPs0 (yK_bl G) (yK_mv G) hK) rfl hl.1 rfl (Nat.le_of_ble_eq_true rfl) d_Base_times_4 ⟨Nat.zero_le _, Nat.zero_le _⟩) hS hW (fun H locs hW hS => ?_)
  obtain ⟨S, e_S⟩ : ∃ q : Nat, (q : Int) = n % 2473 := ⟨(n % 2473).toNat, by omega⟩
  rw [← e_S]
  have hS2 : S < 2473 := by omega
  refine lv_istore_n (lv' := [(2, .int (J ((S : Int)))), (0, .ref (z + d)), (1, .int (J (n)))]) hx hb d_Base_times_7 rfl hl (by decide) rfl (fun ls hl => ?_)
  refine lv_iconst (v := J (1)) hx hb d_Base_times_8 rfl ?_
  refine lv_istore_n (lv' := [(3, .int (J (1))), (2, .int (J ((S : Int)))), (0, .ref (z + d)), (1, .int (J (n)))]) hx hb d_Base_times_9 rfl hl (by decide) rfl (fun ls hl => ?_)
  refine lv_iconst (v := J (0)) hx hb d_Base_times_10 rfl ?_
  refine lv_istore (lv' := [(4, .int (J (0))), (3, .int (J (1))), (2, .int (J ((S : Int)))), (0, .ref (z + d)), (1, .int (J (n)))]) hx hb d_Base_times_11 hl (by decide) rfl (fun ls hl => ?_)
  have loop : ∀ (k b : Nat), b + k = 12 → ∀ (ls : Array Slot) (H : Heap) (locs : List Loc), yW ycl G yLP 1 11 z σ H → va_S yN s.heap H locs → lv_has ls 5 [(4, .int (J (((b : Nat) : Int)))), (3, .int (J (eE (((S % 2 ^ b : Nat) : Int) * B)))), (2, .int (J ((S : Int)))), (0, .ref (z + d)), (1, .int (J (n)))] → W p l e ({ frames := 2, cells := 0, slots := 0, locals := 54 } : Room) s m ([.ref (z + d), .int (J (n))] : List Value).toArray below meth c H locs 0 0 (MQ below (yQi (eE (B * n))) ([.ref (z + d), .int (J (n))] : List Value).toArray s 0 0 yN) (F0 m 13 ls []) := by
    intro k
    induction k with
    | zero =>
      intro b hbk ls H locs hW hS hl
      have hb12 : b = 12 := by omega
      refine lv_iload hx hb d_Base_times_13 (lv_at hl 0 rfl) ?_
      refine lv_bipush (v := J (12)) hx hb d_Base_times_15 (by decide) ?_
      refine y_icmp_ge (tgt := 48) hx hb d_Base_times_17 (by decide) ⟨by omega, by omega⟩ ⟨by omega, by omega⟩ (fun hc1 => ?_) (fun hc1 => absurd hc1 (by omega))
      refine lv_iload_n hx hb d_Base_times_48 rfl (lv_at hl 1 rfl) ?_
      exact y_reti hx hb hr hlocks hS (by subst hb12; rw [Nat.mod_eq_of_lt (by omega), e_S]; exact eE_cong (e_mm n B)) d_Base_times_49
    | succ k ih =>
      intro b hbk ls H locs hW hS hl
      have hdiv : (S : Int) / 2 ^ b = ((S / 2 ^ b : Nat) : Int) := by rw [Int.natCast_ediv, Int.natCast_pow]; rfl
      have hdle : S / 2 ^ b ≤ S := Nat.div_le_self _ _
      refine lv_iload hx hb d_Base_times_13 (lv_at hl 0 rfl) ?_
      refine lv_bipush (v := J (12)) hx hb d_Base_times_15 (by decide) ?_
      refine y_icmp_ge (tgt := 48) hx hb d_Base_times_17 (by decide) ⟨by omega, by omega⟩ ⟨by omega, by omega⟩ (fun hc2 => absurd hc2 (by omega)) (fun hc2 => ?_)
      refine lv_iload_n hx hb d_Base_times_20 rfl (lv_at hl 2 rfl) ?_
      refine lv_iload hx hb d_Base_times_21 (lv_at hl 0 rfl) ?_
      refine y_ishr hx hb d_Base_times_23 b rfl (by omega) (by omega) (by omega) ?_
      refine lv_iconst (v := J (1)) hx hb d_Base_times_24 rfl ?_
      refine y_iand1 hx hb d_Base_times_25 (by rw [hdiv]; exact Int.natCast_nonneg _) (by rw [hdiv]; omega) ?_
      refine lv_iconst (v := J (1)) hx hb d_Base_times_26 rfl ?_
      refine y_icmp_ne (tgt := 42) hx hb d_Base_times_27 (by decide) ⟨by omega, by omega⟩ ⟨by omega, by omega⟩ (fun hbit => ?_) (fun hbit => ?_)
      · skip
        refine lv_iinc (k := 0) (v := J (((b : Nat) : Int) + 1)) (lv' := [(4, .int (J (((b : Nat) : Int) + 1))), (3, .int (J (eE (((S % 2 ^ b : Nat) : Int) * B)))), (2, .int (J ((S : Int)))), (0, .ref (z + d)), (1, .int (J (n)))]) hx hb d_Base_times_42 hl rfl (J_add _ _) (by decide) rfl (fun ls hl => ?_)
        refine lv_goto (tgt := 13) hx hb d_Base_times_45 (by decide) ?_
        refine ih (b + 1) (by omega) ls H locs hW hS ?_
        have e2 : ((S % 2 ^ (b + 1) : Nat) : Int) * B = ((S % 2 ^ b : Nat) : Int) * B := by
          rw [j_bit, show S / 2 ^ b % 2 = 0 by rw [hdiv] at hbit; omega, Nat.mul_zero, Nat.add_zero]
        rw [e2, Int.natCast_add]
        exact hl
      · skip
        refine lv_iload_n hx hb d_Base_times_30 rfl (lv_at hl 1 rfl) ?_
        refine lv_aload_n hx hb d_Base_times_31 rfl (lv_at hl 3 rfl) ?_
        refine y_getr hx hb hA in_Base hown hK.1 hW d (by omega) hL1 rfl 0 (by decide) (hA _ k_fl_Base_9) rfl d_Base_times_32 ?_
        refine lv_iload hx hb d_Base_times_35 (lv_at hl 0 rfl) ?_
        refine y_iald hx hb hK.1 hW (d + 1) (by omega) hL2 rfl (by decide) b rfl (by omega) d_Base_times_37 ?_
        rw [hdb b (by omega)]
        refine y_ci (y_runS (As := [.int (J (eE (((S % 2 ^ b : Nat) : Int) * B))), .int (J (eE ((2 : Int) ^ b * B)))]) (rest := []) ⟨hx, hb, hml, hown, hts⟩ (c_Curve_sum l G (((S % 2 ^ b : Nat) : Int) * B) ((2 : Int) ^ b * B)) 2 k_co_Curve_sum k_ml_Base_21 k_st_Curve_sum k_in_Curve rfl rfl (by decide +kernel) ⟨Nat.le_of_ble_eq_true rfl, Nat.le_of_ble_eq_true rfl⟩ (yPs0 (yK_bl G) (yK_mv G) hK) rfl hl.1 rfl (Nat.le_of_ble_eq_true rfl) d_Base_times_38 ⟨Nat.zero_le _, Nat.zero_le _⟩) hS hW (fun H locs hW hS => ?_)
        refine lv_istore_n (lv' := [(3, .int (J (eE ((((S % 2 ^ b : Nat) : Int) * B) + ((2 : Int) ^ b * B))))), (4, .int (J (((b : Nat) : Int)))), (2, .int (J ((S : Int)))), (0, .ref (z + d)), (1, .int (J (n)))]) hx hb d_Base_times_41 rfl hl (by decide) rfl (fun ls hl => ?_)
        refine lv_iinc (k := 1) (v := J (((b : Nat) : Int) + 1)) (lv' := [(4, .int (J (((b : Nat) : Int) + 1))), (3, .int (J (eE ((((S % 2 ^ b : Nat) : Int) * B) + ((2 : Int) ^ b * B))))), (2, .int (J ((S : Int)))), (0, .ref (z + d)), (1, .int (J (n)))]) hx hb d_Base_times_42 hl rfl (J_add _ _) (by decide) rfl (fun ls hl => ?_)
        refine lv_goto (tgt := 13) hx hb d_Base_times_45 (by decide) ?_
        refine ih (b + 1) (by omega) ls H locs hW hS ?_
        have e2 : ((S % 2 ^ (b + 1) : Nat) : Int) * B = ((S % 2 ^ b : Nat) : Int) * B + 2 ^ b * B := by
          rw [j_bit, show S / 2 ^ b % 2 = 1 by rw [hdiv] at hbit; omega, Nat.mul_one, Int.natCast_add, Int.natCast_pow, Int.add_mul]; rfl
        rw [e2, Int.natCast_add]
        exact hl
  refine loop 12 0 rfl ls _ _ hW hS ?_
  have z2 : ((S % 2 ^ 0 : Nat) : Int) * B = 0 := by rw [Nat.pow_zero, Nat.mod_one]; exact Int.zero_mul B
  rw [z2, eE_0]
  exact hl

theorem d_Bases_cover_0 : decode b_Bases_cover 0 = .ok (.aload_n 0, 1) := by decide +kernel
theorem d_Bases_cover_1 : decode b_Bases_cover 1 = .ok (.getfield 18, 3) := by decide +kernel
theorem d_Bases_cover_4 : decode b_Bases_cover 4 = .ok (.iload_n 1, 1) := by decide +kernel
theorem d_Bases_cover_5 : decode b_Bases_cover 5 = .ok (.invokevirtual 30, 3) := by decide +kernel
theorem d_Bases_cover_8 : decode b_Bases_cover 8 = .ok (.aload_n 0, 1) := by decide +kernel
theorem d_Bases_cover_9 : decode b_Bases_cover 9 = .ok (.getfield 21, 3) := by decide +kernel
theorem d_Bases_cover_12 : decode b_Bases_cover 12 = .ok (.iload_n 2, 1) := by decide +kernel
theorem d_Bases_cover_13 : decode b_Bases_cover 13 = .ok (.invokevirtual 30, 3) := by decide +kernel
theorem d_Bases_cover_16 : decode b_Bases_cover 16 = .ok (.invokestatic 34, 3) := by decide +kernel
theorem d_Bases_cover_19 : decode b_Bases_cover 19 = .ok (.ireturn, 1) := by decide +kernel
theorem d_Bases_commitment_0 : decode b_Bases_commitment 0 = .ok (.aload_n 0, 1) := by decide +kernel
theorem d_Bases_commitment_1 : decode b_Bases_commitment 1 = .ok (.getfield 18, 3) := by decide +kernel
theorem d_Bases_commitment_4 : decode b_Bases_commitment 4 = .ok (.iload_n 2, 1) := by decide +kernel
theorem d_Bases_commitment_5 : decode b_Bases_commitment 5 = .ok (.invokevirtual 30, 3) := by decide +kernel
theorem d_Bases_commitment_8 : decode b_Bases_commitment 8 = .ok (.aload_n 0, 1) := by decide +kernel
theorem d_Bases_commitment_9 : decode b_Bases_commitment 9 = .ok (.getfield 21, 3) := by decide +kernel
theorem d_Bases_commitment_12 : decode b_Bases_commitment 12 = .ok (.iload_n 3, 1) := by decide +kernel
theorem d_Bases_commitment_13 : decode b_Bases_commitment 13 = .ok (.invokevirtual 30, 3) := by decide +kernel
theorem d_Bases_commitment_16 : decode b_Bases_commitment 16 = .ok (.invokestatic 34, 3) := by decide +kernel
theorem d_Bases_commitment_19 : decode b_Bases_commitment 19 = .ok (.istore 4, 2) := by decide +kernel
theorem d_Bases_commitment_21 : decode b_Bases_commitment 21 = .ok (.iload 4, 2) := by decide +kernel
theorem d_Bases_commitment_23 : decode b_Bases_commitment 23 = .ok (.iload_n 1, 1) := by decide +kernel
theorem d_Bases_commitment_24 : decode b_Bases_commitment 24 = .ok (.invokestatic 34, 3) := by decide +kernel
theorem d_Bases_commitment_27 : decode b_Bases_commitment 27 = .ok (.iconst 0, 1) := by decide +kernel
theorem d_Bases_commitment_28 : decode b_Bases_commitment 28 = .ok (.invokestatic 40, 3) := by decide +kernel
theorem d_Bases_commitment_31 : decode b_Bases_commitment 31 = .ok (.ireturn, 1) := by decide +kernel
theorem d_Bases_hash_0 : decode b_Bases_hash 0 = .ok (.aload_n 0, 1) := by decide +kernel
theorem d_Bases_hash_1 : decode b_Bases_hash 1 = .ok (.getfield 24, 3) := by decide +kernel
theorem d_Bases_hash_4 : decode b_Bases_hash 4 = .ok (.iload_n 1, 1) := by decide +kernel
theorem d_Bases_hash_5 : decode b_Bases_hash 5 = .ok (.invokevirtual 30, 3) := by decide +kernel
theorem d_Bases_hash_8 : decode b_Bases_hash 8 = .ok (.aload_n 0, 1) := by decide +kernel
theorem d_Bases_hash_9 : decode b_Bases_hash 9 = .ok (.getfield 27, 3) := by decide +kernel
theorem d_Bases_hash_12 : decode b_Bases_hash 12 = .ok (.iload_n 2, 1) := by decide +kernel
theorem d_Bases_hash_13 : decode b_Bases_hash 13 = .ok (.invokevirtual 30, 3) := by decide +kernel
theorem d_Bases_hash_16 : decode b_Bases_hash 16 = .ok (.invokestatic 34, 3) := by decide +kernel
theorem d_Bases_hash_19 : decode b_Bases_hash 19 = .ok (.istore 4, 2) := by decide +kernel
theorem d_Bases_hash_21 : decode b_Bases_hash 21 = .ok (.iload 4, 2) := by decide +kernel
theorem d_Bases_hash_23 : decode b_Bases_hash 23 = .ok (.aload_n 0, 1) := by decide +kernel
theorem d_Bases_hash_24 : decode b_Bases_hash 24 = .ok (.getfield 12, 3) := by decide +kernel
theorem d_Bases_hash_27 : decode b_Bases_hash 27 = .ok (.iload_n 3, 1) := by decide +kernel
theorem d_Bases_hash_28 : decode b_Bases_hash 28 = .ok (.invokevirtual 30, 3) := by decide +kernel
theorem d_Bases_hash_31 : decode b_Bases_hash 31 = .ok (.invokestatic 34, 3) := by decide +kernel
theorem d_Bases_hash_34 : decode b_Bases_hash 34 = .ok (.iconst 0, 1) := by decide +kernel
theorem d_Bases_hash_35 : decode b_Bases_hash 35 = .ok (.invokestatic 40, 3) := by decide +kernel
theorem d_Bases_hash_38 : decode b_Bases_hash 38 = .ok (.ireturn, 1) := by decide +kernel
theorem d_Bases_nullifier_0 : decode b_Bases_nullifier 0 = .ok (.aload_n 0, 1) := by decide +kernel
theorem d_Bases_nullifier_1 : decode b_Bases_nullifier 1 = .ok (.getfield 24, 3) := by decide +kernel
theorem d_Bases_nullifier_4 : decode b_Bases_nullifier 4 = .ok (.iload_n 1, 1) := by decide +kernel
theorem d_Bases_nullifier_5 : decode b_Bases_nullifier 5 = .ok (.invokevirtual 30, 3) := by decide +kernel
theorem d_Bases_nullifier_8 : decode b_Bases_nullifier 8 = .ok (.aload_n 0, 1) := by decide +kernel
theorem d_Bases_nullifier_9 : decode b_Bases_nullifier 9 = .ok (.getfield 27, 3) := by decide +kernel
theorem d_Bases_nullifier_12 : decode b_Bases_nullifier 12 = .ok (.iload_n 2, 1) := by decide +kernel
theorem d_Bases_nullifier_13 : decode b_Bases_nullifier 13 = .ok (.iconst 1, 1) := by decide +kernel
theorem d_Bases_nullifier_14 : decode b_Bases_nullifier 14 = .ok (.iadd, 1) := by decide +kernel
theorem d_Bases_nullifier_15 : decode b_Bases_nullifier 15 = .ok (.invokevirtual 30, 3) := by decide +kernel
theorem d_Bases_nullifier_18 : decode b_Bases_nullifier 18 = .ok (.invokestatic 34, 3) := by decide +kernel
theorem d_Bases_nullifier_21 : decode b_Bases_nullifier 21 = .ok (.iconst 0, 1) := by decide +kernel
theorem d_Bases_nullifier_22 : decode b_Bases_nullifier 22 = .ok (.invokestatic 40, 3) := by decide +kernel
theorem d_Bases_nullifier_25 : decode b_Bases_nullifier 25 = .ok (.ireturn, 1) := by decide +kernel

set_option maxHeartbeats 4000000 in
set_option maxRecDepth 100000 in
theorem c_Bases_cover (l : Launch) (G : yG) (z : Nat) (σ : yM) (hBs : yBs σ) (v w : Int) (hv : jr v) (hw : jr w) : Met l y_Bases_cover (Cond.code y_Bases_cover b_Bases_cover 3 (some .int) :: yT) ({ frames := 3, cells := 0, slots := 0, locals := 78 } : Room) (yP ycl G yLP 1 11 z σ (yK G) [.ref (z + 1), .int (J (v)), .int (J (w))]) (yQi (eE (1281 * v + 1369 * w))) 0 0 yN := by
  refine y_met (by decide +kernel) (Nat.le_of_ble_eq_true rfl) ?_
  intro p e s m below meth c ls hx hb hr hml hlocks hown hname hts hv hl
  have hA : ∀ w ∈ yT, w.before _ s = true := fun w h => hts w (List.mem_cons_of_mem _ h)
  have hl : lv_has ls 3 [(0, .ref (z + 1)), (1, .int (J (v))), (2, .int (J (w)))] := hl
  obtain ⟨hW, hK⟩ := hv
  have hS : va_S yN s.heap s.heap [] := va_S.rf
  refine lv_aload_n hx hb d_Bases_cover_0 rfl (lv_at hl 0 rfl) ?_
  refine y_getr hx hb hA in_Bases hown hK.1 hW 1 (by omega) lay_1 rfl 1 (by decide) (hA _ k_fl_Bases_18) rfl d_Bases_cover_1 ?_
  refine lv_iload_n hx hb d_Bases_cover_4 rfl (lv_at hl 1 rfl) ?_
  refine y_ci (y_runV (As := [.int (J (v))]) (rest := []) ⟨hx, hb, hml, hown, hts⟩ (c_Base_times l G z σ 4 1281 lay_4 lay_5 (by decide) (fun b h => (hBs b h).2.1) (v) hv) 1 k_co_Base_times k_ml_Bases_30 k_im_Base_times k_se_Base_times k_in_Base rfl rfl (by decide +kernel) ⟨Nat.le_of_ble_eq_true rfl, Nat.le_of_ble_eq_true rfl⟩ (yPv (yK_bl G) (yK_mv G) hK hK.1 hW (by omega) lay_4 rfl (by omega) (by omega)) rfl hl.1 rfl (Nat.le_of_ble_eq_true rfl) d_Bases_cover_5 ⟨Nat.zero_le _, Nat.zero_le _⟩) hS hW (fun H locs hW hS => ?_)
  refine lv_aload_n hx hb d_Bases_cover_8 rfl (lv_at hl 0 rfl) ?_
  refine y_getr hx hb hA in_Bases hown hK.1 hW 1 (by omega) lay_1 rfl 2 (by decide) (hA _ k_fl_Bases_21) rfl d_Bases_cover_9 ?_
  refine lv_iload_n hx hb d_Bases_cover_12 rfl (lv_at hl 2 rfl) ?_
  refine y_ci (y_runV (As := [.int (J (w))]) (rest := [.int (J (eE (1281 * v)))]) ⟨hx, hb, hml, hown, hts⟩ (c_Base_times l G z σ 6 1369 lay_6 lay_7 (by decide) (fun b h => (hBs b h).2.2.1) (w) hw) 1 k_co_Base_times k_ml_Bases_30 k_im_Base_times k_se_Base_times k_in_Base rfl rfl (by decide +kernel) ⟨Nat.le_of_ble_eq_true rfl, Nat.le_of_ble_eq_true rfl⟩ (yPv (yK_bl G) (yK_mv G) hK hK.1 hW (by omega) lay_6 rfl (by omega) (by omega)) rfl hl.1 rfl (Nat.le_of_ble_eq_true rfl) d_Bases_cover_13 ⟨Nat.zero_le _, Nat.zero_le _⟩) hS hW (fun H locs hW hS => ?_)
  refine y_ci (y_runS (As := [.int (J (eE (1281 * v))), .int (J (eE (1369 * w)))]) (rest := []) ⟨hx, hb, hml, hown, hts⟩ (c_Curve_sum l G (1281 * v) (1369 * w)) 2 k_co_Curve_sum k_ml_Bases_34 k_st_Curve_sum k_in_Curve rfl rfl (by decide +kernel) ⟨Nat.le_of_ble_eq_true rfl, Nat.le_of_ble_eq_true rfl⟩ (yPs0 (yK_bl G) (yK_mv G) hK) rfl hl.1 rfl (Nat.le_of_ble_eq_true rfl) d_Bases_cover_16 ⟨Nat.zero_le _, Nat.zero_le _⟩) hS hW (fun H locs hW hS => ?_)
  exact y_reti hx hb hr hlocks hS rfl d_Bases_cover_19

set_option maxHeartbeats 4000000 in
set_option maxRecDepth 100000 in
theorem c_Bases_commitment (l : Launch) (G : yG) (z : Nat) (σ : yM) (hBs : yBs σ) (a v t : Int) (hv : jr v) (ht : jr t) : Met l y_Bases_commitment (Cond.code y_Bases_commitment b_Bases_commitment 5 (some .int) :: yT) ({ frames := 3, cells := 0, slots := 0, locals := 78 } : Room) (yP ycl G yLP 1 11 z σ (yK G) [.ref (z + 1), .int (J (eE a)), .int (J (v)), .int (J (t))]) (yQi (eX (1281 * v + 1369 * t + a))) 0 0 yN := by
  refine y_met (by decide +kernel) (Nat.le_of_ble_eq_true rfl) ?_
  intro p e s m below meth c ls hx hb hr hml hlocks hown hname hts hv hl
  have hA : ∀ w ∈ yT, w.before _ s = true := fun w h => hts w (List.mem_cons_of_mem _ h)
  have hl : lv_has ls 5 [(0, .ref (z + 1)), (1, .int (J (eE a))), (2, .int (J (v))), (3, .int (J (t)))] := hl
  obtain ⟨hW, hK⟩ := hv
  have hS : va_S yN s.heap s.heap [] := va_S.rf
  refine lv_aload_n hx hb d_Bases_commitment_0 rfl (lv_at hl 0 rfl) ?_
  refine y_getr hx hb hA in_Bases hown hK.1 hW 1 (by omega) lay_1 rfl 1 (by decide) (hA _ k_fl_Bases_18) rfl d_Bases_commitment_1 ?_
  refine lv_iload_n hx hb d_Bases_commitment_4 rfl (lv_at hl 2 rfl) ?_
  refine y_ci (y_runV (As := [.int (J (v))]) (rest := []) ⟨hx, hb, hml, hown, hts⟩ (c_Base_times l G z σ 4 1281 lay_4 lay_5 (by decide) (fun b h => (hBs b h).2.1) (v) hv) 1 k_co_Base_times k_ml_Bases_30 k_im_Base_times k_se_Base_times k_in_Base rfl rfl (by decide +kernel) ⟨Nat.le_of_ble_eq_true rfl, Nat.le_of_ble_eq_true rfl⟩ (yPv (yK_bl G) (yK_mv G) hK hK.1 hW (by omega) lay_4 rfl (by omega) (by omega)) rfl hl.1 rfl (Nat.le_of_ble_eq_true rfl) d_Bases_commitment_5 ⟨Nat.zero_le _, Nat.zero_le _⟩) hS hW (fun H locs hW hS => ?_)
  refine lv_aload_n hx hb d_Bases_commitment_8 rfl (lv_at hl 0 rfl) ?_
  refine y_getr hx hb hA in_Bases hown hK.1 hW 1 (by omega) lay_1 rfl 2 (by decide) (hA _ k_fl_Bases_21) rfl d_Bases_commitment_9 ?_
  refine lv_iload_n hx hb d_Bases_commitment_12 rfl (lv_at hl 3 rfl) ?_
  refine y_ci (y_runV (As := [.int (J (t))]) (rest := [.int (J (eE (1281 * v)))]) ⟨hx, hb, hml, hown, hts⟩ (c_Base_times l G z σ 6 1369 lay_6 lay_7 (by decide) (fun b h => (hBs b h).2.2.1) (t) ht) 1 k_co_Base_times k_ml_Bases_30 k_im_Base_times k_se_Base_times k_in_Base rfl rfl (by decide +kernel) ⟨Nat.le_of_ble_eq_true rfl, Nat.le_of_ble_eq_true rfl⟩ (yPv (yK_bl G) (yK_mv G) hK hK.1 hW (by omega) lay_6 rfl (by omega) (by omega)) rfl hl.1 rfl (Nat.le_of_ble_eq_true rfl) d_Bases_commitment_13 ⟨Nat.zero_le _, Nat.zero_le _⟩) hS hW (fun H locs hW hS => ?_)
  refine y_ci (y_runS (As := [.int (J (eE (1281 * v))), .int (J (eE (1369 * t)))]) (rest := []) ⟨hx, hb, hml, hown, hts⟩ (c_Curve_sum l G (1281 * v) (1369 * t)) 2 k_co_Curve_sum k_ml_Bases_34 k_st_Curve_sum k_in_Curve rfl rfl (by decide +kernel) ⟨Nat.le_of_ble_eq_true rfl, Nat.le_of_ble_eq_true rfl⟩ (yPs0 (yK_bl G) (yK_mv G) hK) rfl hl.1 rfl (Nat.le_of_ble_eq_true rfl) d_Bases_commitment_16 ⟨Nat.zero_le _, Nat.zero_le _⟩) hS hW (fun H locs hW hS => ?_)
  refine lv_istore (lv' := [(4, .int (J (eE ((1281 * v) + (1369 * t))))), (0, .ref (z + 1)), (1, .int (J (eE a))), (2, .int (J (v))), (3, .int (J (t)))]) hx hb d_Bases_commitment_19 hl (by decide) rfl (fun ls hl => ?_)
  refine lv_iload hx hb d_Bases_commitment_21 (lv_at hl 0 rfl) ?_
  refine lv_iload_n hx hb d_Bases_commitment_23 rfl (lv_at hl 2 rfl) ?_
  refine y_ci (y_runS (As := [.int (J (eE ((1281 * v) + (1369 * t)))), .int (J (eE a))]) (rest := []) ⟨hx, hb, hml, hown, hts⟩ (c_Curve_sum l G ((1281 * v) + (1369 * t)) a) 2 k_co_Curve_sum k_ml_Bases_34 k_st_Curve_sum k_in_Curve rfl rfl (by decide +kernel) ⟨Nat.le_of_ble_eq_true rfl, Nat.le_of_ble_eq_true rfl⟩ (yPs0 (yK_bl G) (yK_mv G) hK) rfl hl.1 rfl (Nat.le_of_ble_eq_true rfl) d_Bases_commitment_24 ⟨Nat.zero_le _, Nat.zero_le _⟩) hS hW (fun H locs hW hS => ?_)
  refine lv_iconst (v := J (0)) hx hb d_Bases_commitment_27 rfl ?_
  refine y_ci (y_runS (As := [.int (J (eE (((1281 * v) + (1369 * t)) + a))), .int (J (0))]) (rest := []) ⟨hx, hb, hml, hown, hts⟩ (c_Curve_coordinate l G (((1281 * v) + (1369 * t)) + a) (0) ⟨by omega, by omega⟩) 2 k_co_Curve_coordinate k_ml_Bases_40 k_st_Curve_coordinate k_in_Curve rfl rfl (by decide +kernel) ⟨Nat.le_of_ble_eq_true rfl, Nat.le_of_ble_eq_true rfl⟩ (yPs0 (yK_bl G) (yK_mv G) hK) rfl hl.1 rfl (Nat.le_of_ble_eq_true rfl) d_Bases_commitment_28 ⟨Nat.zero_le _, Nat.zero_le _⟩) hS hW (fun H locs hW hS => ?_)
  rw [if_pos rfl]
  exact y_reti hx hb hr hlocks hS rfl d_Bases_commitment_31

set_option maxHeartbeats 4000000 in
set_option maxRecDepth 100000 in
theorem c_Bases_hash (l : Launch) (G : yG) (z : Nat) (σ : yM) (hBs : yBs σ) (a b k : Int) (ha : jr a) (hb2 : jr b) (hk : jr k) : Met l y_Bases_hash (Cond.code y_Bases_hash b_Bases_hash 5 (some .int) :: yT) ({ frames := 3, cells := 0, slots := 0, locals := 78 } : Room) (yP ycl G yLP 1 11 z σ (yK G) [.ref (z + 1), .int (J (a)), .int (J (b)), .int (J (k))]) (yQi (eX (2409 * a + 1499 * b + 1 * k))) 0 0 yN := by
  refine y_met (by decide +kernel) (Nat.le_of_ble_eq_true rfl) ?_
  intro p e s m below meth c ls hx hb hr hml hlocks hown hname hts hv hl
  have hA : ∀ w ∈ yT, w.before _ s = true := fun w h => hts w (List.mem_cons_of_mem _ h)
  have hl : lv_has ls 5 [(0, .ref (z + 1)), (1, .int (J (a))), (2, .int (J (b))), (3, .int (J (k)))] := hl
  obtain ⟨hW, hK⟩ := hv
  have hS : va_S yN s.heap s.heap [] := va_S.rf
  refine lv_aload_n hx hb d_Bases_hash_0 rfl (lv_at hl 0 rfl) ?_
  refine y_getr hx hb hA in_Bases hown hK.1 hW 1 (by omega) lay_1 rfl 3 (by decide) (hA _ k_fl_Bases_24) rfl d_Bases_hash_1 ?_
  refine lv_iload_n hx hb d_Bases_hash_4 rfl (lv_at hl 1 rfl) ?_
  refine y_ci (y_runV (As := [.int (J (a))]) (rest := []) ⟨hx, hb, hml, hown, hts⟩ (c_Base_times l G z σ 8 2409 lay_8 lay_9 (by decide) (fun b h => (hBs b h).2.2.2.1) (a) ha) 1 k_co_Base_times k_ml_Bases_30 k_im_Base_times k_se_Base_times k_in_Base rfl rfl (by decide +kernel) ⟨Nat.le_of_ble_eq_true rfl, Nat.le_of_ble_eq_true rfl⟩ (yPv (yK_bl G) (yK_mv G) hK hK.1 hW (by omega) lay_8 rfl (by omega) (by omega)) rfl hl.1 rfl (Nat.le_of_ble_eq_true rfl) d_Bases_hash_5 ⟨Nat.zero_le _, Nat.zero_le _⟩) hS hW (fun H locs hW hS => ?_)
  refine lv_aload_n hx hb d_Bases_hash_8 rfl (lv_at hl 0 rfl) ?_
  refine y_getr hx hb hA in_Bases hown hK.1 hW 1 (by omega) lay_1 rfl 4 (by decide) (hA _ k_fl_Bases_27) rfl d_Bases_hash_9 ?_
  refine lv_iload_n hx hb d_Bases_hash_12 rfl (lv_at hl 2 rfl) ?_
  refine y_ci (y_runV (As := [.int (J (b))]) (rest := [.int (J (eE (2409 * a)))]) ⟨hx, hb, hml, hown, hts⟩ (c_Base_times l G z σ 10 1499 lay_10 lay_11 (by decide) (fun b h => (hBs b h).2.2.2.2) (b) hb2) 1 k_co_Base_times k_ml_Bases_30 k_im_Base_times k_se_Base_times k_in_Base rfl rfl (by decide +kernel) ⟨Nat.le_of_ble_eq_true rfl, Nat.le_of_ble_eq_true rfl⟩ (yPv (yK_bl G) (yK_mv G) hK hK.1 hW (by omega) lay_10 rfl (by omega) (by omega)) rfl hl.1 rfl (Nat.le_of_ble_eq_true rfl) d_Bases_hash_13 ⟨Nat.zero_le _, Nat.zero_le _⟩) hS hW (fun H locs hW hS => ?_)
  refine y_ci (y_runS (As := [.int (J (eE (2409 * a))), .int (J (eE (1499 * b)))]) (rest := []) ⟨hx, hb, hml, hown, hts⟩ (c_Curve_sum l G (2409 * a) (1499 * b)) 2 k_co_Curve_sum k_ml_Bases_34 k_st_Curve_sum k_in_Curve rfl rfl (by decide +kernel) ⟨Nat.le_of_ble_eq_true rfl, Nat.le_of_ble_eq_true rfl⟩ (yPs0 (yK_bl G) (yK_mv G) hK) rfl hl.1 rfl (Nat.le_of_ble_eq_true rfl) d_Bases_hash_16 ⟨Nat.zero_le _, Nat.zero_le _⟩) hS hW (fun H locs hW hS => ?_)
  refine lv_istore (lv' := [(4, .int (J (eE ((2409 * a) + (1499 * b))))), (0, .ref (z + 1)), (1, .int (J (a))), (2, .int (J (b))), (3, .int (J (k)))]) hx hb d_Bases_hash_19 hl (by decide) rfl (fun ls hl => ?_)
  refine lv_iload hx hb d_Bases_hash_21 (lv_at hl 0 rfl) ?_
  refine lv_aload_n hx hb d_Bases_hash_23 rfl (lv_at hl 1 rfl) ?_
  refine y_getr hx hb hA in_Bases hown hK.1 hW 1 (by omega) lay_1 rfl 0 (by decide) (hA _ k_fl_Bases_12) rfl d_Bases_hash_24 ?_
  refine lv_iload_n hx hb d_Bases_hash_27 rfl (lv_at hl 4 rfl) ?_
  refine y_ci (y_runV (As := [.int (J (k))]) (rest := [.int (J (eE ((2409 * a) + (1499 * b))))]) ⟨hx, hb, hml, hown, hts⟩ (c_Base_times l G z σ 2 1 lay_2 lay_3 (by decide) (fun b h => (hBs b h).1) (k) hk) 1 k_co_Base_times k_ml_Bases_30 k_im_Base_times k_se_Base_times k_in_Base rfl rfl (by decide +kernel) ⟨Nat.le_of_ble_eq_true rfl, Nat.le_of_ble_eq_true rfl⟩ (yPv (yK_bl G) (yK_mv G) hK hK.1 hW (by omega) lay_2 rfl (by omega) (by omega)) rfl hl.1 rfl (Nat.le_of_ble_eq_true rfl) d_Bases_hash_28 ⟨Nat.zero_le _, Nat.zero_le _⟩) hS hW (fun H locs hW hS => ?_)
  refine y_ci (y_runS (As := [.int (J (eE ((2409 * a) + (1499 * b)))), .int (J (eE (1 * k)))]) (rest := []) ⟨hx, hb, hml, hown, hts⟩ (c_Curve_sum l G ((2409 * a) + (1499 * b)) (1 * k)) 2 k_co_Curve_sum k_ml_Bases_34 k_st_Curve_sum k_in_Curve rfl rfl (by decide +kernel) ⟨Nat.le_of_ble_eq_true rfl, Nat.le_of_ble_eq_true rfl⟩ (yPs0 (yK_bl G) (yK_mv G) hK) rfl hl.1 rfl (Nat.le_of_ble_eq_true rfl) d_Bases_hash_31 ⟨Nat.zero_le _, Nat.zero_le _⟩) hS hW (fun H locs hW hS => ?_)
  refine lv_iconst (v := J (0)) hx hb d_Bases_hash_34 rfl ?_
  refine y_ci (y_runS (As := [.int (J (eE (((2409 * a) + (1499 * b)) + (1 * k)))), .int (J (0))]) (rest := []) ⟨hx, hb, hml, hown, hts⟩ (c_Curve_coordinate l G (((2409 * a) + (1499 * b)) + (1 * k)) (0) ⟨by omega, by omega⟩) 2 k_co_Curve_coordinate k_ml_Bases_40 k_st_Curve_coordinate k_in_Curve rfl rfl (by decide +kernel) ⟨Nat.le_of_ble_eq_true rfl, Nat.le_of_ble_eq_true rfl⟩ (yPs0 (yK_bl G) (yK_mv G) hK) rfl hl.1 rfl (Nat.le_of_ble_eq_true rfl) d_Bases_hash_35 ⟨Nat.zero_le _, Nat.zero_le _⟩) hS hW (fun H locs hW hS => ?_)
  rw [if_pos rfl]
  exact y_reti hx hb hr hlocks hS rfl d_Bases_hash_38

set_option maxHeartbeats 4000000 in
set_option maxRecDepth 100000 in
theorem c_Bases_nullifier (l : Launch) (G : yG) (z : Nat) (σ : yM) (hBs : yBs σ) (a i : Int) (ha : jr a) (hi : jr (i + 1)) : Met l y_Bases_nullifier (Cond.code y_Bases_nullifier b_Bases_nullifier 3 (some .int) :: yT) ({ frames := 3, cells := 0, slots := 0, locals := 78 } : Room) (yP ycl G yLP 1 11 z σ (yK G) [.ref (z + 1), .int (J (a)), .int (J (i))]) (yQi (eX (2409 * a + 1499 * (i + 1)))) 0 0 yN := by
  refine y_met (by decide +kernel) (Nat.le_of_ble_eq_true rfl) ?_
  intro p e s m below meth c ls hx hb hr hml hlocks hown hname hts hv hl
  have hA : ∀ w ∈ yT, w.before _ s = true := fun w h => hts w (List.mem_cons_of_mem _ h)
  have hl : lv_has ls 3 [(0, .ref (z + 1)), (1, .int (J (a))), (2, .int (J (i)))] := hl
  obtain ⟨hW, hK⟩ := hv
  have hS : va_S yN s.heap s.heap [] := va_S.rf
  refine lv_aload_n hx hb d_Bases_nullifier_0 rfl (lv_at hl 0 rfl) ?_
  refine y_getr hx hb hA in_Bases hown hK.1 hW 1 (by omega) lay_1 rfl 3 (by decide) (hA _ k_fl_Bases_24) rfl d_Bases_nullifier_1 ?_
  refine lv_iload_n hx hb d_Bases_nullifier_4 rfl (lv_at hl 1 rfl) ?_
  refine y_ci (y_runV (As := [.int (J (a))]) (rest := []) ⟨hx, hb, hml, hown, hts⟩ (c_Base_times l G z σ 8 2409 lay_8 lay_9 (by decide) (fun b h => (hBs b h).2.2.2.1) (a) ha) 1 k_co_Base_times k_ml_Bases_30 k_im_Base_times k_se_Base_times k_in_Base rfl rfl (by decide +kernel) ⟨Nat.le_of_ble_eq_true rfl, Nat.le_of_ble_eq_true rfl⟩ (yPv (yK_bl G) (yK_mv G) hK hK.1 hW (by omega) lay_8 rfl (by omega) (by omega)) rfl hl.1 rfl (Nat.le_of_ble_eq_true rfl) d_Bases_nullifier_5 ⟨Nat.zero_le _, Nat.zero_le _⟩) hS hW (fun H locs hW hS => ?_)
  refine lv_aload_n hx hb d_Bases_nullifier_8 rfl (lv_at hl 0 rfl) ?_
  refine y_getr hx hb hA in_Bases hown hK.1 hW 1 (by omega) lay_1 rfl 4 (by decide) (hA _ k_fl_Bases_27) rfl d_Bases_nullifier_9 ?_
  refine lv_iload_n hx hb d_Bases_nullifier_12 rfl (lv_at hl 2 rfl) ?_
  refine lv_iconst (v := J (1)) hx hb d_Bases_nullifier_13 rfl ?_
  refine y_iadd hx hb d_Bases_nullifier_14 ?_
  refine y_ci (y_runV (As := [.int (J (i + 1))]) (rest := [.int (J (eE (2409 * a)))]) ⟨hx, hb, hml, hown, hts⟩ (c_Base_times l G z σ 10 1499 lay_10 lay_11 (by decide) (fun b h => (hBs b h).2.2.2.2) (i + 1) hi) 1 k_co_Base_times k_ml_Bases_30 k_im_Base_times k_se_Base_times k_in_Base rfl rfl (by decide +kernel) ⟨Nat.le_of_ble_eq_true rfl, Nat.le_of_ble_eq_true rfl⟩ (yPv (yK_bl G) (yK_mv G) hK hK.1 hW (by omega) lay_10 rfl (by omega) (by omega)) rfl hl.1 rfl (Nat.le_of_ble_eq_true rfl) d_Bases_nullifier_15 ⟨Nat.zero_le _, Nat.zero_le _⟩) hS hW (fun H locs hW hS => ?_)
  refine y_ci (y_runS (As := [.int (J (eE (2409 * a))), .int (J (eE (1499 * (i + 1))))]) (rest := []) ⟨hx, hb, hml, hown, hts⟩ (c_Curve_sum l G (2409 * a) (1499 * (i + 1))) 2 k_co_Curve_sum k_ml_Bases_34 k_st_Curve_sum k_in_Curve rfl rfl (by decide +kernel) ⟨Nat.le_of_ble_eq_true rfl, Nat.le_of_ble_eq_true rfl⟩ (yPs0 (yK_bl G) (yK_mv G) hK) rfl hl.1 rfl (Nat.le_of_ble_eq_true rfl) d_Bases_nullifier_18 ⟨Nat.zero_le _, Nat.zero_le _⟩) hS hW (fun H locs hW hS => ?_)
  refine lv_iconst (v := J (0)) hx hb d_Bases_nullifier_21 rfl ?_
  refine y_ci (y_runS (As := [.int (J (eE ((2409 * a) + (1499 * (i + 1))))), .int (J (0))]) (rest := []) ⟨hx, hb, hml, hown, hts⟩ (c_Curve_coordinate l G ((2409 * a) + (1499 * (i + 1))) (0) ⟨by omega, by omega⟩) 2 k_co_Curve_coordinate k_ml_Bases_40 k_st_Curve_coordinate k_in_Curve rfl rfl (by decide +kernel) ⟨Nat.le_of_ble_eq_true rfl, Nat.le_of_ble_eq_true rfl⟩ (yPs0 (yK_bl G) (yK_mv G) hK) rfl hl.1 rfl (Nat.le_of_ble_eq_true rfl) d_Bases_nullifier_22 ⟨Nat.zero_le _, Nat.zero_le _⟩) hS hW (fun H locs hW hS => ?_)
  rw [if_pos rfl]
  exact y_reti hx hb hr hlocks hS rfl d_Bases_nullifier_25
