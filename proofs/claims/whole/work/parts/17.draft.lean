theorem d_Draft_empty_0 : decode b_Draft_empty 0 = .ok (.aload_n 0, 1) := by decide +kernel
theorem d_Draft_empty_1 : decode b_Draft_empty 1 = .ok (.iconst 0, 1) := by decide +kernel
theorem d_Draft_empty_2 : decode b_Draft_empty 2 = .ok (.putfield 25, 3) := by decide +kernel
theorem d_Draft_empty_5 : decode b_Draft_empty 5 = .ok (.aload_n 0, 1) := by decide +kernel
theorem d_Draft_empty_6 : decode b_Draft_empty 6 = .ok (.iconst 0, 1) := by decide +kernel
theorem d_Draft_empty_7 : decode b_Draft_empty 7 = .ok (.putfield 29, 3) := by decide +kernel
theorem d_Draft_empty_10 : decode b_Draft_empty 10 = .ok (.aload_n 0, 1) := by decide +kernel
theorem d_Draft_empty_11 : decode b_Draft_empty 11 = .ok (.iconst 0, 1) := by decide +kernel
theorem d_Draft_empty_12 : decode b_Draft_empty 12 = .ok (.putfield 32, 3) := by decide +kernel
theorem d_Draft_empty_15 : decode b_Draft_empty 15 = .ok (.aload_n 0, 1) := by decide +kernel
theorem d_Draft_empty_16 : decode b_Draft_empty 16 = .ok (.iconst 0, 1) := by decide +kernel
theorem d_Draft_empty_17 : decode b_Draft_empty 17 = .ok (.putfield 35, 3) := by decide +kernel
theorem d_Draft_empty_20 : decode b_Draft_empty 20 = .ok (.return_, 1) := by decide +kernel
theorem d_Draft_sealScalar_0 : decode b_Draft_sealScalar 0 = .ok (.aload_n 0, 1) := by decide +kernel
theorem d_Draft_sealScalar_1 : decode b_Draft_sealScalar 1 = .ok (.getfield 35, 3) := by decide +kernel
theorem d_Draft_sealScalar_4 : decode b_Draft_sealScalar 4 = .ok (.istore_n 1, 1) := by decide +kernel
theorem d_Draft_sealScalar_5 : decode b_Draft_sealScalar 5 = .ok (.iconst 0, 1) := by decide +kernel
theorem d_Draft_sealScalar_6 : decode b_Draft_sealScalar 6 = .ok (.istore_n 2, 1) := by decide +kernel
theorem d_Draft_sealScalar_7 : decode b_Draft_sealScalar 7 = .ok (.iload_n 2, 1) := by decide +kernel
theorem d_Draft_sealScalar_8 : decode b_Draft_sealScalar 8 = .ok (.aload_n 0, 1) := by decide +kernel
theorem d_Draft_sealScalar_9 : decode b_Draft_sealScalar 9 = .ok (.getfield 25, 3) := by decide +kernel
theorem d_Draft_sealScalar_12 : decode b_Draft_sealScalar 12 = .ok (.if_icmp .ge 21, 3) := by decide +kernel
theorem d_Draft_sealScalar_15 : decode b_Draft_sealScalar 15 = .ok (.iload_n 1, 1) := by decide +kernel
theorem d_Draft_sealScalar_16 : decode b_Draft_sealScalar 16 = .ok (.aload_n 0, 1) := by decide +kernel
theorem d_Draft_sealScalar_17 : decode b_Draft_sealScalar 17 = .ok (.getfield 11, 3) := by decide +kernel
theorem d_Draft_sealScalar_20 : decode b_Draft_sealScalar 20 = .ok (.iload_n 2, 1) := by decide +kernel
theorem d_Draft_sealScalar_21 : decode b_Draft_sealScalar 21 = .ok (.aaload, 1) := by decide +kernel
theorem d_Draft_sealScalar_22 : decode b_Draft_sealScalar 22 = .ok (.getfield 38, 3) := by decide +kernel
theorem d_Draft_sealScalar_25 : decode b_Draft_sealScalar 25 = .ok (.iadd, 1) := by decide +kernel
theorem d_Draft_sealScalar_26 : decode b_Draft_sealScalar 26 = .ok (.istore_n 1, 1) := by decide +kernel
theorem d_Draft_sealScalar_27 : decode b_Draft_sealScalar 27 = .ok (.iinc 2 1, 3) := by decide +kernel
theorem d_Draft_sealScalar_30 : decode b_Draft_sealScalar 30 = .ok (.goto (-23), 3) := by decide +kernel
theorem d_Draft_sealScalar_33 : decode b_Draft_sealScalar 33 = .ok (.iconst 0, 1) := by decide +kernel
theorem d_Draft_sealScalar_34 : decode b_Draft_sealScalar 34 = .ok (.istore_n 2, 1) := by decide +kernel
theorem d_Draft_sealScalar_35 : decode b_Draft_sealScalar 35 = .ok (.iload_n 2, 1) := by decide +kernel
theorem d_Draft_sealScalar_36 : decode b_Draft_sealScalar 36 = .ok (.aload_n 0, 1) := by decide +kernel
theorem d_Draft_sealScalar_37 : decode b_Draft_sealScalar 37 = .ok (.getfield 29, 3) := by decide +kernel
theorem d_Draft_sealScalar_40 : decode b_Draft_sealScalar 40 = .ok (.if_icmp .ge 21, 3) := by decide +kernel
theorem d_Draft_sealScalar_43 : decode b_Draft_sealScalar 43 = .ok (.iload_n 1, 1) := by decide +kernel
theorem d_Draft_sealScalar_44 : decode b_Draft_sealScalar 44 = .ok (.aload_n 0, 1) := by decide +kernel
theorem d_Draft_sealScalar_45 : decode b_Draft_sealScalar 45 = .ok (.getfield 19, 3) := by decide +kernel
theorem d_Draft_sealScalar_48 : decode b_Draft_sealScalar 48 = .ok (.iload_n 2, 1) := by decide +kernel
theorem d_Draft_sealScalar_49 : decode b_Draft_sealScalar 49 = .ok (.aaload, 1) := by decide +kernel
theorem d_Draft_sealScalar_50 : decode b_Draft_sealScalar 50 = .ok (.getfield 41, 3) := by decide +kernel
theorem d_Draft_sealScalar_53 : decode b_Draft_sealScalar 53 = .ok (.isub, 1) := by decide +kernel
theorem d_Draft_sealScalar_54 : decode b_Draft_sealScalar 54 = .ok (.istore_n 1, 1) := by decide +kernel
theorem d_Draft_sealScalar_55 : decode b_Draft_sealScalar 55 = .ok (.iinc 2 1, 3) := by decide +kernel
theorem d_Draft_sealScalar_58 : decode b_Draft_sealScalar 58 = .ok (.goto (-23), 3) := by decide +kernel
theorem d_Draft_sealScalar_61 : decode b_Draft_sealScalar 61 = .ok (.iload_n 1, 1) := by decide +kernel
theorem d_Draft_sealScalar_62 : decode b_Draft_sealScalar 62 = .ok (.sipush 2473, 3) := by decide +kernel
theorem d_Draft_sealScalar_65 : decode b_Draft_sealScalar 65 = .ok (.invokestatic 42, 3) := by decide +kernel
theorem d_Draft_sealScalar_68 : decode b_Draft_sealScalar 68 = .ok (.ireturn, 1) := by decide +kernel
theorem d_Draft_excess_0 : decode b_Draft_excess 0 = .ok (.aload_n 1, 1) := by decide +kernel
theorem d_Draft_excess_1 : decode b_Draft_excess 1 = .ok (.getfield 48, 3) := by decide +kernel
theorem d_Draft_excess_4 : decode b_Draft_excess 4 = .ok (.aload_n 0, 1) := by decide +kernel
theorem d_Draft_excess_5 : decode b_Draft_excess 5 = .ok (.getfield 32, 3) := by decide +kernel
theorem d_Draft_excess_8 : decode b_Draft_excess 8 = .ok (.invokevirtual 54, 3) := by decide +kernel
theorem d_Draft_excess_11 : decode b_Draft_excess 11 = .ok (.invokestatic 60, 3) := by decide +kernel
theorem d_Draft_excess_14 : decode b_Draft_excess 14 = .ok (.istore_n 2, 1) := by decide +kernel
theorem d_Draft_excess_15 : decode b_Draft_excess 15 = .ok (.iconst 0, 1) := by decide +kernel
theorem d_Draft_excess_16 : decode b_Draft_excess 16 = .ok (.istore_n 3, 1) := by decide +kernel
theorem d_Draft_excess_17 : decode b_Draft_excess 17 = .ok (.iload_n 3, 1) := by decide +kernel
theorem d_Draft_excess_18 : decode b_Draft_excess 18 = .ok (.aload_n 0, 1) := by decide +kernel
theorem d_Draft_excess_19 : decode b_Draft_excess 19 = .ok (.getfield 25, 3) := by decide +kernel
theorem d_Draft_excess_22 : decode b_Draft_excess 22 = .ok (.if_icmp .ge 23, 3) := by decide +kernel
theorem d_Draft_excess_25 : decode b_Draft_excess 25 = .ok (.iload_n 2, 1) := by decide +kernel
theorem d_Draft_excess_26 : decode b_Draft_excess 26 = .ok (.aload_n 0, 1) := by decide +kernel
theorem d_Draft_excess_27 : decode b_Draft_excess 27 = .ok (.getfield 11, 3) := by decide +kernel
theorem d_Draft_excess_30 : decode b_Draft_excess 30 = .ok (.iload_n 3, 1) := by decide +kernel
theorem d_Draft_excess_31 : decode b_Draft_excess 31 = .ok (.aaload, 1) := by decide +kernel
theorem d_Draft_excess_32 : decode b_Draft_excess 32 = .ok (.getfield 65, 3) := by decide +kernel
theorem d_Draft_excess_35 : decode b_Draft_excess 35 = .ok (.invokestatic 68, 3) := by decide +kernel
theorem d_Draft_excess_38 : decode b_Draft_excess 38 = .ok (.istore_n 2, 1) := by decide +kernel
theorem d_Draft_excess_39 : decode b_Draft_excess 39 = .ok (.iinc 3 1, 3) := by decide +kernel
theorem d_Draft_excess_42 : decode b_Draft_excess 42 = .ok (.goto (-25), 3) := by decide +kernel
theorem d_Draft_excess_45 : decode b_Draft_excess 45 = .ok (.iconst 0, 1) := by decide +kernel
theorem d_Draft_excess_46 : decode b_Draft_excess 46 = .ok (.istore_n 3, 1) := by decide +kernel
theorem d_Draft_excess_47 : decode b_Draft_excess 47 = .ok (.iload_n 3, 1) := by decide +kernel
theorem d_Draft_excess_48 : decode b_Draft_excess 48 = .ok (.aload_n 0, 1) := by decide +kernel
theorem d_Draft_excess_49 : decode b_Draft_excess 49 = .ok (.getfield 29, 3) := by decide +kernel
theorem d_Draft_excess_52 : decode b_Draft_excess 52 = .ok (.if_icmp .ge 26, 3) := by decide +kernel
theorem d_Draft_excess_55 : decode b_Draft_excess 55 = .ok (.iload_n 2, 1) := by decide +kernel
theorem d_Draft_excess_56 : decode b_Draft_excess 56 = .ok (.aload_n 0, 1) := by decide +kernel
theorem d_Draft_excess_57 : decode b_Draft_excess 57 = .ok (.getfield 19, 3) := by decide +kernel
theorem d_Draft_excess_60 : decode b_Draft_excess 60 = .ok (.iload_n 3, 1) := by decide +kernel
theorem d_Draft_excess_61 : decode b_Draft_excess 61 = .ok (.aaload, 1) := by decide +kernel
theorem d_Draft_excess_62 : decode b_Draft_excess 62 = .ok (.getfield 71, 3) := by decide +kernel
theorem d_Draft_excess_65 : decode b_Draft_excess 65 = .ok (.invokestatic 60, 3) := by decide +kernel
theorem d_Draft_excess_68 : decode b_Draft_excess 68 = .ok (.invokestatic 68, 3) := by decide +kernel
theorem d_Draft_excess_71 : decode b_Draft_excess 71 = .ok (.istore_n 2, 1) := by decide +kernel
theorem d_Draft_excess_72 : decode b_Draft_excess 72 = .ok (.iinc 3 1, 3) := by decide +kernel
theorem d_Draft_excess_75 : decode b_Draft_excess 75 = .ok (.goto (-28), 3) := by decide +kernel
theorem d_Draft_excess_78 : decode b_Draft_excess 78 = .ok (.iload_n 2, 1) := by decide +kernel
theorem d_Draft_excess_79 : decode b_Draft_excess 79 = .ok (.ireturn, 1) := by decide +kernel
theorem d_Draft_repeatsNullifier_0 : decode b_Draft_repeatsNullifier 0 = .ok (.iconst 0, 1) := by decide +kernel
theorem d_Draft_repeatsNullifier_1 : decode b_Draft_repeatsNullifier 1 = .ok (.istore_n 2, 1) := by decide +kernel
theorem d_Draft_repeatsNullifier_2 : decode b_Draft_repeatsNullifier 2 = .ok (.iload_n 2, 1) := by decide +kernel
theorem d_Draft_repeatsNullifier_3 : decode b_Draft_repeatsNullifier 3 = .ok (.iload_n 1, 1) := by decide +kernel
theorem d_Draft_repeatsNullifier_4 : decode b_Draft_repeatsNullifier 4 = .ok (.if_icmp .ge 32, 3) := by decide +kernel
theorem d_Draft_repeatsNullifier_7 : decode b_Draft_repeatsNullifier 7 = .ok (.aload_n 0, 1) := by decide +kernel
theorem d_Draft_repeatsNullifier_8 : decode b_Draft_repeatsNullifier 8 = .ok (.getfield 11, 3) := by decide +kernel
theorem d_Draft_repeatsNullifier_11 : decode b_Draft_repeatsNullifier 11 = .ok (.iload_n 2, 1) := by decide +kernel
theorem d_Draft_repeatsNullifier_12 : decode b_Draft_repeatsNullifier 12 = .ok (.aaload, 1) := by decide +kernel
theorem d_Draft_repeatsNullifier_13 : decode b_Draft_repeatsNullifier 13 = .ok (.getfield 72, 3) := by decide +kernel
theorem d_Draft_repeatsNullifier_16 : decode b_Draft_repeatsNullifier 16 = .ok (.aload_n 0, 1) := by decide +kernel
theorem d_Draft_repeatsNullifier_17 : decode b_Draft_repeatsNullifier 17 = .ok (.getfield 11, 3) := by decide +kernel
theorem d_Draft_repeatsNullifier_20 : decode b_Draft_repeatsNullifier 20 = .ok (.iload_n 1, 1) := by decide +kernel
theorem d_Draft_repeatsNullifier_21 : decode b_Draft_repeatsNullifier 21 = .ok (.aaload, 1) := by decide +kernel
theorem d_Draft_repeatsNullifier_22 : decode b_Draft_repeatsNullifier 22 = .ok (.getfield 72, 3) := by decide +kernel
theorem d_Draft_repeatsNullifier_25 : decode b_Draft_repeatsNullifier 25 = .ok (.if_icmp .ne 5, 3) := by decide +kernel
theorem d_Draft_repeatsNullifier_28 : decode b_Draft_repeatsNullifier 28 = .ok (.iconst 1, 1) := by decide +kernel
theorem d_Draft_repeatsNullifier_29 : decode b_Draft_repeatsNullifier 29 = .ok (.ireturn, 1) := by decide +kernel
theorem d_Draft_repeatsNullifier_30 : decode b_Draft_repeatsNullifier 30 = .ok (.iinc 2 1, 3) := by decide +kernel
theorem d_Draft_repeatsNullifier_33 : decode b_Draft_repeatsNullifier 33 = .ok (.goto (-31), 3) := by decide +kernel
theorem d_Draft_repeatsNullifier_36 : decode b_Draft_repeatsNullifier 36 = .ok (.iconst 0, 1) := by decide +kernel
theorem d_Draft_repeatsNullifier_37 : decode b_Draft_repeatsNullifier 37 = .ok (.ireturn, 1) := by decide +kernel

set_option maxHeartbeats 4000000 in
set_option maxRecDepth 100000 in
theorem c_Draft_empty (l : Launch) (G : yG) (z : Nat) (σ : yM) : Met l y_Draft_empty (Cond.code y_Draft_empty b_Draft_empty 1 (Option.none : Option Jvm.ClassFile.FieldType) :: yT) ({ frames := 0, cells := 0, slots := 0, locals := 0 } : Room) (yP ycl G yLP 0 73 z σ (yK G) [.ref (z + 43)]) (yQh ycl G yLP 0 73 z (fun τ => (∀ d, d ≠ 43 → τ d = σ d) ∧ τ 43 2 = 0 ∧ τ 43 3 = 0 ∧ τ 43 4 = 0 ∧ τ 43 5 = 0)) 0 0 (yA z 0 73) := by
  refine y_met (by decide +kernel) (Nat.le_of_ble_eq_true rfl) ?_
  intro p e s m below meth c ls hx hb hr hml hlocks hown hname hts hv hl
  have hA : ∀ w ∈ yT, w.before _ s = true := fun w h => hts w (List.mem_cons_of_mem _ h)
  have hl : lv_has ls 1 [(0, .ref (z + 43))] := hl
  obtain ⟨hW, hK⟩ := hv
  have hS : va_S (yA z 0 73) s.heap s.heap [] := va_S.rf
  have hAr : ∀ d, 0 ≤ d ∧ d < 0 + 73 → yA z 0 73 (z + d) := yA_all
  refine lv_aload_n hx hb d_Draft_empty_0 rfl (lv_at hl 0 rfl) ?_
  refine lv_iconst (v := J (0)) hx hb d_Draft_empty_1 rfl ?_
  refine y_puti hx hb hA in_Draft hown hK.1 hW 43 (by omega) lay_43 rfl 2 (by decide) t_Draft tk_Draft nm_Draft hS hAr (hA _ k_fl_Draft_25) rfl (by decide +kernel) rfl d_Draft_empty_2 (fun H locs hW hS => ?_)
  refine lv_aload_n hx hb d_Draft_empty_5 rfl (lv_at hl 0 rfl) ?_
  refine lv_iconst (v := J (0)) hx hb d_Draft_empty_6 rfl ?_
  refine y_puti hx hb hA in_Draft hown hK.1 hW 43 (by omega) lay_43 rfl 3 (by decide) t_Draft tk_Draft nm_Draft hS hAr (hA _ k_fl_Draft_29) rfl (by decide +kernel) rfl d_Draft_empty_7 (fun H locs hW hS => ?_)
  refine lv_aload_n hx hb d_Draft_empty_10 rfl (lv_at hl 0 rfl) ?_
  refine lv_iconst (v := J (0)) hx hb d_Draft_empty_11 rfl ?_
  refine y_puti hx hb hA in_Draft hown hK.1 hW 43 (by omega) lay_43 rfl 4 (by decide) t_Draft tk_Draft nm_Draft hS hAr (hA _ k_fl_Draft_32) rfl (by decide +kernel) rfl d_Draft_empty_12 (fun H locs hW hS => ?_)
  refine lv_aload_n hx hb d_Draft_empty_15 rfl (lv_at hl 0 rfl) ?_
  refine lv_iconst (v := J (0)) hx hb d_Draft_empty_16 rfl ?_
  refine y_puti hx hb hA in_Draft hown hK.1 hW 43 (by omega) lay_43 rfl 5 (by decide) t_Draft tk_Draft nm_Draft hS hAr (hA _ k_fl_Draft_35) rfl (by decide +kernel) rfl d_Draft_empty_17 (fun H locs hW hS => ?_)
  exact y_reth hx hb hr hlocks hS hW ⟨fun d hd => by rw [y2_ne hd, y2_ne hd, y2_ne hd, y2_ne hd], by rw [y2_ot (by decide), y2_ot (by decide), y2_ot (by decide), y2_at], by rw [y2_ot (by decide), y2_ot (by decide), y2_at], by rw [y2_ot (by decide), y2_at], by rw [y2_at]⟩ d_Draft_empty_20

set_option maxHeartbeats 4000000 in
set_option maxRecDepth 100000 in
theorem c_Draft_sealScalar (l : Launch) (G : yG) (z : Nat) (σ : yM) (ns no : Nat) (hns : ns ≤ 2) (hno : no ≤ 2) (hs : σ 43 2 = (ns : Int)) (ho : σ 43 3 = (no : Int)) (ht : 0 ≤ σ 43 5 ∧ σ 43 5 < 2473) (hsw : ∀ j, j < ns → 0 ≤ σ (46 + 2 * j) 5 ∧ σ (46 + 2 * j) 5 ≤ 2472) (how : ∀ j, j < no → 0 ≤ σ (50 + j) 7 ∧ σ (50 + j) 7 ≤ 2472) : Met l y_Draft_sealScalar (Cond.code y_Draft_sealScalar b_Draft_sealScalar 3 (some .int) :: yT) ({ frames := 1, cells := 0, slots := 0, locals := 22 } : Room) (yP ycl G yLP 0 73 z σ (yK G) [.ref (z + 43)]) (yQi ((σ 43 5 + sm (fun j => σ (46 + 2 * j) 5) ns - sm (fun j => σ (50 + j) 7) no) % 2473)) 0 0 yN := by
  refine y_met (by decide +kernel) (Nat.le_of_ble_eq_true rfl) ?_
  intro p e s m below meth c ls hx hb hr hml hlocks hown hname hts hv hl
  have hA : ∀ w ∈ yT, w.before _ s = true := fun w h => hts w (List.mem_cons_of_mem _ h)
  have hl : lv_has ls 3 [(0, .ref (z + 43))] := hl
  obtain ⟨hW, hK⟩ := hv
  have hS : va_S yN s.heap s.heap [] := va_S.rf
  have hb1 := sm_rng (f := (fun j => σ (46 + 2 * j) 5)) hsw ns (Nat.le_refl _)
  have hb2 := sm_rng (f := (fun j => σ (50 + j) 7)) how no (Nat.le_refl _)
  refine lv_aload_n hx hb d_Draft_sealScalar_0 rfl (lv_at hl 0 rfl) ?_
  refine y_geti hx hb hA in_Draft hown hK.1 hW 43 (by omega) lay_43 rfl 5 (by decide) (hA _ k_fl_Draft_35) rfl d_Draft_sealScalar_1 ?_
  refine lv_istore_n (lv' := [(1, .int (J (σ 43 5))), (0, .ref (z + 43))]) hx hb d_Draft_sealScalar_4 rfl hl (by decide) rfl (fun ls hl => ?_)
  refine lv_iconst (v := J (0)) hx hb d_Draft_sealScalar_5 rfl ?_
  refine lv_istore_n (lv' := [(2, .int (J (0))), (1, .int (J (σ 43 5))), (0, .ref (z + 43))]) hx hb d_Draft_sealScalar_6 rfl hl (by decide) rfl (fun ls hl => ?_)
  have loop7 : ∀ (k j : Nat), j + k = ns → ∀ (ls : Array Slot) (H : Heap) (locs : List Loc), yW ycl G yLP 0 73 z σ H → va_S yN s.heap H locs → lv_has ls 3 [(2, .int (J (((j : Nat) : Int)))), (1, .int (J (σ 43 5 + sm (fun j => σ (46 + 2 * j) 5) j))), (0, .ref (z + 43))] → W p l e ({ frames := 1, cells := 0, slots := 0, locals := 22 } : Room) s m ([.ref (z + 43)] : List Value).toArray below meth c H locs 0 0 (MQ below (yQi ((σ 43 5 + sm (fun j => σ (46 + 2 * j) 5) ns - sm (fun j => σ (50 + j) 7) no) % 2473)) ([.ref (z + 43)] : List Value).toArray s 0 0 yN) (F0 m 7 ls []) := by
    intro k
    induction k with
    | zero =>
      intro j hjk ls H locs hW hS hl
      have hjN : ns = j := by omega
      subst hjN
      refine lv_iload_n hx hb d_Draft_sealScalar_7 rfl (lv_at hl 0 rfl) ?_
      refine lv_aload_n hx hb d_Draft_sealScalar_8 rfl (lv_at hl 2 rfl) ?_
      refine y_geti hx hb hA in_Draft hown hK.1 hW 43 (by omega) lay_43 rfl 2 (by decide) (hA _ k_fl_Draft_25) rfl d_Draft_sealScalar_9 ?_
      rw [hs]
      refine y_icmp_ge (tgt := 33) hx hb d_Draft_sealScalar_12 (by decide) ⟨by omega, by omega⟩ ⟨by omega, by omega⟩ (fun hc1 => ?_) (fun hc1 => absurd hc1 (by omega))
      refine lv_iconst (v := J (0)) hx hb d_Draft_sealScalar_33 rfl ?_
      refine lv_istore_n (lv' := [(2, .int (J (0))), (1, .int (J (σ 43 5 + sm (fun j => σ (46 + 2 * j) 5) ns))), (0, .ref (z + 43))]) hx hb d_Draft_sealScalar_34 rfl hl (by decide) rfl (fun ls hl => ?_)
      have loop35 : ∀ (k j : Nat), j + k = no → ∀ (ls : Array Slot) (H : Heap) (locs : List Loc), yW ycl G yLP 0 73 z σ H → va_S yN s.heap H locs → lv_has ls 3 [(2, .int (J (((j : Nat) : Int)))), (1, .int (J (σ 43 5 + sm (fun j => σ (46 + 2 * j) 5) ns - sm (fun j => σ (50 + j) 7) j))), (0, .ref (z + 43))] → W p l e ({ frames := 1, cells := 0, slots := 0, locals := 22 } : Room) s m ([.ref (z + 43)] : List Value).toArray below meth c H locs 0 0 (MQ below (yQi ((σ 43 5 + sm (fun j => σ (46 + 2 * j) 5) ns - sm (fun j => σ (50 + j) 7) no) % 2473)) ([.ref (z + 43)] : List Value).toArray s 0 0 yN) (F0 m 35 ls []) := by
        intro k
        induction k with
        | zero =>
          intro j hjk ls H locs hW hS hl
          have hjN : no = j := by omega
          subst hjN
          refine lv_iload_n hx hb d_Draft_sealScalar_35 rfl (lv_at hl 0 rfl) ?_
          refine lv_aload_n hx hb d_Draft_sealScalar_36 rfl (lv_at hl 2 rfl) ?_
          refine y_geti hx hb hA in_Draft hown hK.1 hW 43 (by omega) lay_43 rfl 3 (by decide) (hA _ k_fl_Draft_29) rfl d_Draft_sealScalar_37 ?_
          rw [ho]
          refine y_icmp_ge (tgt := 61) hx hb d_Draft_sealScalar_40 (by decide) ⟨by omega, by omega⟩ ⟨by omega, by omega⟩ (fun hc2 => ?_) (fun hc2 => absurd hc2 (by omega))
          refine lv_iload_n hx hb d_Draft_sealScalar_61 rfl (lv_at hl 1 rfl) ?_
          refine lv_sipush (v := J (2473)) hx hb d_Draft_sealScalar_62 (by decide) ?_
          refine y_ci (y_runS (As := [.int (J (σ 43 5 + sm (fun j => σ (46 + 2 * j) 5) ns - sm (fun j => σ (50 + j) 7) no)), .int (J (2473))]) (rest := []) ⟨hx, hb, hml, hown, hts⟩ (c_floorMod l G (σ 43 5 + sm (fun j => σ (46 + 2 * j) 5) ns - sm (fun j => σ (50 + j) 7) no) (2473) ⟨by omega, by omega⟩ ⟨by omega, by omega⟩) 2 k_co_Math_floorMod k_ml_Draft_42 k_st_Math_floorMod k_in_Math rfl rfl (by decide +kernel) ⟨Nat.le_of_ble_eq_true rfl, Nat.le_of_ble_eq_true rfl⟩ (yPs0 (yK_bl G) (yK_mv G) hK) rfl hl.1 rfl (Nat.le_of_ble_eq_true rfl) d_Draft_sealScalar_65 ⟨Nat.zero_le _, Nat.zero_le _⟩) hS hW (fun H locs hW hS => ?_)
          exact y_reti hx hb hr hlocks hS rfl d_Draft_sealScalar_68
        | succ k ih =>
          intro j hjk ls H locs hW hS hl
          refine lv_iload_n hx hb d_Draft_sealScalar_35 rfl (lv_at hl 0 rfl) ?_
          refine lv_aload_n hx hb d_Draft_sealScalar_36 rfl (lv_at hl 2 rfl) ?_
          refine y_geti hx hb hA in_Draft hown hK.1 hW 43 (by omega) lay_43 rfl 3 (by decide) (hA _ k_fl_Draft_29) rfl d_Draft_sealScalar_37 ?_
          rw [ho]
          refine y_icmp_ge (tgt := 61) hx hb d_Draft_sealScalar_40 (by decide) ⟨by omega, by omega⟩ ⟨by omega, by omega⟩ (fun hc3 => absurd hc3 (by omega)) (fun hc3 => ?_)
          refine lv_iload_n hx hb d_Draft_sealScalar_43 rfl (lv_at hl 1 rfl) ?_
          refine lv_aload_n hx hb d_Draft_sealScalar_44 rfl (lv_at hl 2 rfl) ?_
          refine y_getr hx hb hA in_Draft hown hK.1 hW 43 (by omega) lay_43 rfl 1 (by decide) (hA _ k_fl_Draft_19) rfl d_Draft_sealScalar_45 ?_
          refine lv_iload_n hx hb d_Draft_sealScalar_48 rfl (lv_at hl 0 rfl) ?_
          refine y_aald hx hb hK.1 hW 45 (by omega) lay_45 rfl (by decide) j rfl (by omega) d_Draft_sealScalar_49 ?_
          refine y_geti hx hb hA in_Output hown hK.1 hW (50 + j) (by omega) (lay_Output (n := j) (by omega)) rfl 7 (by decide) (hA _ k_fl_Draft_41) rfl d_Draft_sealScalar_50 ?_
          refine y_isub hx hb d_Draft_sealScalar_53 ?_
          refine lv_istore_n (lv' := [(1, .int (J ((σ 43 5 + sm (fun j => σ (46 + 2 * j) 5) ns - sm (fun j => σ (50 + j) 7) j) - (σ (50 + j) 7)))), (2, .int (J (((j : Nat) : Int)))), (0, .ref (z + 43))]) hx hb d_Draft_sealScalar_54 rfl hl (by decide) rfl (fun ls hl => ?_)
          refine lv_iinc (k := 1) (v := J (((j + 1 : Nat) : Int))) (lv' := [(2, .int (J (((j + 1 : Nat) : Int)))), (1, .int (J ((σ 43 5 + sm (fun j => σ (46 + 2 * j) 5) ns - sm (fun j => σ (50 + j) 7) j) - (σ (50 + j) 7)))), (0, .ref (z + 43))]) hx hb d_Draft_sealScalar_55 hl rfl (by rw [Int.natCast_add j 1]; exact J_add _ _) (by decide) rfl (fun ls hl => ?_)
          refine lv_goto (tgt := 35) hx hb d_Draft_sealScalar_58 (by decide) ?_
          refine ih (j + 1) (by omega) ls H locs hW hS ?_
          have e : σ 43 5 + sm (fun j => σ (46 + 2 * j) 5) ns - sm (fun j => σ (50 + j) 7) (j + 1) = σ 43 5 + sm (fun j => σ (46 + 2 * j) 5) ns - sm (fun j => σ (50 + j) 7) j - σ (50 + j) 7 := by show _ - (sm (fun j => σ (50 + j) 7) j + σ (50 + j) 7) = _; omega
          rw [e]
          exact hl
      exact loop35 no 0 (by omega) ls _ _ hW hS (by have e : σ 43 5 + sm (fun j => σ (46 + 2 * j) 5) ns - sm (fun j => σ (50 + j) 7) 0 = σ 43 5 + sm (fun j => σ (46 + 2 * j) 5) ns := Int.sub_zero _; rw [e]; exact hl)
    | succ k ih =>
      intro j hjk ls H locs hW hS hl
      refine lv_iload_n hx hb d_Draft_sealScalar_7 rfl (lv_at hl 0 rfl) ?_
      refine lv_aload_n hx hb d_Draft_sealScalar_8 rfl (lv_at hl 2 rfl) ?_
      refine y_geti hx hb hA in_Draft hown hK.1 hW 43 (by omega) lay_43 rfl 2 (by decide) (hA _ k_fl_Draft_25) rfl d_Draft_sealScalar_9 ?_
      rw [hs]
      refine y_icmp_ge (tgt := 33) hx hb d_Draft_sealScalar_12 (by decide) ⟨by omega, by omega⟩ ⟨by omega, by omega⟩ (fun hc4 => absurd hc4 (by omega)) (fun hc4 => ?_)
      refine lv_iload_n hx hb d_Draft_sealScalar_15 rfl (lv_at hl 1 rfl) ?_
      refine lv_aload_n hx hb d_Draft_sealScalar_16 rfl (lv_at hl 2 rfl) ?_
      refine y_getr hx hb hA in_Draft hown hK.1 hW 43 (by omega) lay_43 rfl 0 (by decide) (hA _ k_fl_Draft_11) rfl d_Draft_sealScalar_17 ?_
      refine lv_iload_n hx hb d_Draft_sealScalar_20 rfl (lv_at hl 0 rfl) ?_
      refine y_aald hx hb hK.1 hW 44 (by omega) lay_44 rfl (by decide) j rfl (by omega) d_Draft_sealScalar_21 ?_
      refine y_getiN hx hb hA in_Spend hown hK.1 hW (46 + 2 * j) (by omega) (lay_Spend (n := j) (by omega)) rfl 5 (by decide) (va_Nw.use rfl (k_fl_Draft_38 hK.2)) rfl d_Draft_sealScalar_22 ?_
      refine y_iadd hx hb d_Draft_sealScalar_25 ?_
      refine lv_istore_n (lv' := [(1, .int (J ((σ 43 5 + sm (fun j => σ (46 + 2 * j) 5) j) + (σ (46 + 2 * j) 5)))), (2, .int (J (((j : Nat) : Int)))), (0, .ref (z + 43))]) hx hb d_Draft_sealScalar_26 rfl hl (by decide) rfl (fun ls hl => ?_)
      refine lv_iinc (k := 1) (v := J (((j + 1 : Nat) : Int))) (lv' := [(2, .int (J (((j + 1 : Nat) : Int)))), (1, .int (J ((σ 43 5 + sm (fun j => σ (46 + 2 * j) 5) j) + (σ (46 + 2 * j) 5)))), (0, .ref (z + 43))]) hx hb d_Draft_sealScalar_27 hl rfl (by rw [Int.natCast_add j 1]; exact J_add _ _) (by decide) rfl (fun ls hl => ?_)
      refine lv_goto (tgt := 7) hx hb d_Draft_sealScalar_30 (by decide) ?_
      refine ih (j + 1) (by omega) ls H locs hW hS ?_
      have e : σ 43 5 + sm (fun j => σ (46 + 2 * j) 5) (j + 1) = σ 43 5 + sm (fun j => σ (46 + 2 * j) 5) j + σ (46 + 2 * j) 5 := (Int.add_assoc _ _ _).symm
      rw [e]
      exact hl
  exact loop7 ns 0 (by omega) ls _ _ hW hS (by have e : σ 43 5 + sm (fun j => σ (46 + 2 * j) 5) 0 = σ 43 5 := Int.add_zero _; rw [e]; exact hl)

set_option maxHeartbeats 4000000 in
set_option maxRecDepth 100000 in
theorem c_Draft_excess (l : Launch) (G : yG) (z : Nat) (σ : yM) (ns no : Nat) (hns : ns ≤ 2) (hno : no ≤ 2) (hs : σ 43 2 = (ns : Int)) (ho : σ 43 3 = (no : Int)) (hBs : yBs σ) (b0 : Int) (hb0 : σ 43 4 = b0) (hb0r : jr b0) (cs co : Nat → Int) (hcs : ∀ j, j < ns → σ (46 + 2 * j) 9 = eE (cs j)) (hco : ∀ j, j < no → σ (50 + j) 8 = eE (co j)) : Met l y_Draft_excess (Cond.code y_Draft_excess b_Draft_excess 4 (some .int) :: yT) ({ frames := 3, cells := 0, slots := 0, locals := 78 } : Room) (yP ycl G yLP 0 73 z σ (yK G) [.ref (z + 43), .ref (z + 1)]) (yQi (eE (-(1281 * b0) + sm cs ns - sm co no))) 0 0 yN := by
  refine y_met (by decide +kernel) (Nat.le_of_ble_eq_true rfl) ?_
  intro p e s m below meth c ls hx hb hr hml hlocks hown hname hts hv hl
  have hA : ∀ w ∈ yT, w.before _ s = true := fun w h => hts w (List.mem_cons_of_mem _ h)
  have hl : lv_has ls 4 [(0, .ref (z + 43)), (1, .ref (z + 1))] := hl
  obtain ⟨hW, hK⟩ := hv
  have hS : va_S yN s.heap s.heap [] := va_S.rf
  refine lv_aload_n hx hb d_Draft_excess_0 rfl (lv_at hl 1 rfl) ?_
  refine y_getr hx hb hA in_Bases hown hK.1 hW 1 (by omega) lay_1 rfl 1 (by decide) (hA _ k_fl_Draft_48) rfl d_Draft_excess_1 ?_
  refine lv_aload_n hx hb d_Draft_excess_4 rfl (lv_at hl 0 rfl) ?_
  refine y_geti hx hb hA in_Draft hown hK.1 hW 43 (by omega) lay_43 rfl 4 (by decide) (hA _ k_fl_Draft_32) rfl d_Draft_excess_5 ?_
  rw [hb0]
  refine y_ci (y_runV (As := [.int (J (b0))]) (rest := []) ⟨hx, hb, hml, hown, hts⟩ (c_Base_times l G z σ 4 1281 lay_4 lay_5 (by decide) (fun b h => (hBs b h).2.1) (b0) hb0r) 1 k_co_Base_times k_ml_Draft_54 k_im_Base_times k_se_Base_times k_in_Base rfl rfl (by decide +kernel) ⟨Nat.le_of_ble_eq_true rfl, Nat.le_of_ble_eq_true rfl⟩ (yPv (yK_bl G) (yK_mv G) hK hK.1 hW (by omega) lay_4 rfl (by omega) (by omega)) rfl hl.1 rfl (Nat.le_of_ble_eq_true rfl) d_Draft_excess_8 ⟨Nat.zero_le _, Nat.zero_le _⟩) hS hW (fun H locs hW hS => ?_)
  refine y_ci (y_runS (As := [.int (J (eE (1281 * b0)))]) (rest := []) ⟨hx, hb, hml, hown, hts⟩ (c_Curve_negative l G (1281 * b0)) 1 k_co_Curve_negative k_ml_Draft_60 k_st_Curve_negative k_in_Curve rfl rfl (by decide +kernel) ⟨Nat.le_of_ble_eq_true rfl, Nat.le_of_ble_eq_true rfl⟩ (yPs0 (yK_bl G) (yK_mv G) hK) rfl hl.1 rfl (Nat.le_of_ble_eq_true rfl) d_Draft_excess_11 ⟨Nat.zero_le _, Nat.zero_le _⟩) hS hW (fun H locs hW hS => ?_)
  refine lv_istore_n (lv' := [(2, .int (J (eE (-(1281 * b0))))), (0, .ref (z + 43)), (1, .ref (z + 1))]) hx hb d_Draft_excess_14 rfl hl (by decide) rfl (fun ls hl => ?_)
  refine lv_iconst (v := J (0)) hx hb d_Draft_excess_15 rfl ?_
  refine lv_istore_n (lv' := [(3, .int (J (0))), (2, .int (J (eE (-(1281 * b0))))), (0, .ref (z + 43)), (1, .ref (z + 1))]) hx hb d_Draft_excess_16 rfl hl (by decide) rfl (fun ls hl => ?_)
  have loop17 : ∀ (k j : Nat), j + k = ns → ∀ (ls : Array Slot) (H : Heap) (locs : List Loc), yW ycl G yLP 0 73 z σ H → va_S yN s.heap H locs → lv_has ls 4 [(3, .int (J (((j : Nat) : Int)))), (2, .int (J (eE (-(1281 * b0) + sm cs j)))), (0, .ref (z + 43)), (1, .ref (z + 1))] → W p l e ({ frames := 3, cells := 0, slots := 0, locals := 78 } : Room) s m ([.ref (z + 43), .ref (z + 1)] : List Value).toArray below meth c H locs 0 0 (MQ below (yQi (eE (-(1281 * b0) + sm cs ns - sm co no))) ([.ref (z + 43), .ref (z + 1)] : List Value).toArray s 0 0 yN) (F0 m 17 ls []) := by
    intro k
    induction k with
    | zero =>
      intro j hjk ls H locs hW hS hl
      have hjN : ns = j := by omega
      subst hjN
      refine lv_iload_n hx hb d_Draft_excess_17 rfl (lv_at hl 0 rfl) ?_
      refine lv_aload_n hx hb d_Draft_excess_18 rfl (lv_at hl 2 rfl) ?_
      refine y_geti hx hb hA in_Draft hown hK.1 hW 43 (by omega) lay_43 rfl 2 (by decide) (hA _ k_fl_Draft_25) rfl d_Draft_excess_19 ?_
      rw [hs]
      refine y_icmp_ge (tgt := 45) hx hb d_Draft_excess_22 (by decide) ⟨by omega, by omega⟩ ⟨by omega, by omega⟩ (fun hc1 => ?_) (fun hc1 => absurd hc1 (by omega))
      refine lv_iconst (v := J (0)) hx hb d_Draft_excess_45 rfl ?_
      refine lv_istore_n (lv' := [(3, .int (J (0))), (2, .int (J (eE (-(1281 * b0) + sm cs ns)))), (0, .ref (z + 43)), (1, .ref (z + 1))]) hx hb d_Draft_excess_46 rfl hl (by decide) rfl (fun ls hl => ?_)
      have loop47 : ∀ (k j : Nat), j + k = no → ∀ (ls : Array Slot) (H : Heap) (locs : List Loc), yW ycl G yLP 0 73 z σ H → va_S yN s.heap H locs → lv_has ls 4 [(3, .int (J (((j : Nat) : Int)))), (2, .int (J (eE (-(1281 * b0) + sm cs ns - sm co j)))), (0, .ref (z + 43)), (1, .ref (z + 1))] → W p l e ({ frames := 3, cells := 0, slots := 0, locals := 78 } : Room) s m ([.ref (z + 43), .ref (z + 1)] : List Value).toArray below meth c H locs 0 0 (MQ below (yQi (eE (-(1281 * b0) + sm cs ns - sm co no))) ([.ref (z + 43), .ref (z + 1)] : List Value).toArray s 0 0 yN) (F0 m 47 ls []) := by
        intro k
        induction k with
        | zero =>
          intro j hjk ls H locs hW hS hl
          have hjN : no = j := by omega
          subst hjN
          refine lv_iload_n hx hb d_Draft_excess_47 rfl (lv_at hl 0 rfl) ?_
          refine lv_aload_n hx hb d_Draft_excess_48 rfl (lv_at hl 2 rfl) ?_
          refine y_geti hx hb hA in_Draft hown hK.1 hW 43 (by omega) lay_43 rfl 3 (by decide) (hA _ k_fl_Draft_29) rfl d_Draft_excess_49 ?_
          rw [ho]
          refine y_icmp_ge (tgt := 78) hx hb d_Draft_excess_52 (by decide) ⟨by omega, by omega⟩ ⟨by omega, by omega⟩ (fun hc2 => ?_) (fun hc2 => absurd hc2 (by omega))
          refine lv_iload_n hx hb d_Draft_excess_78 rfl (lv_at hl 1 rfl) ?_
          exact y_reti hx hb hr hlocks hS rfl d_Draft_excess_79
        | succ k ih =>
          intro j hjk ls H locs hW hS hl
          refine lv_iload_n hx hb d_Draft_excess_47 rfl (lv_at hl 0 rfl) ?_
          refine lv_aload_n hx hb d_Draft_excess_48 rfl (lv_at hl 2 rfl) ?_
          refine y_geti hx hb hA in_Draft hown hK.1 hW 43 (by omega) lay_43 rfl 3 (by decide) (hA _ k_fl_Draft_29) rfl d_Draft_excess_49 ?_
          rw [ho]
          refine y_icmp_ge (tgt := 78) hx hb d_Draft_excess_52 (by decide) ⟨by omega, by omega⟩ ⟨by omega, by omega⟩ (fun hc3 => absurd hc3 (by omega)) (fun hc3 => ?_)
          refine lv_iload_n hx hb d_Draft_excess_55 rfl (lv_at hl 1 rfl) ?_
          refine lv_aload_n hx hb d_Draft_excess_56 rfl (lv_at hl 2 rfl) ?_
          refine y_getr hx hb hA in_Draft hown hK.1 hW 43 (by omega) lay_43 rfl 1 (by decide) (hA _ k_fl_Draft_19) rfl d_Draft_excess_57 ?_
          refine lv_iload_n hx hb d_Draft_excess_60 rfl (lv_at hl 0 rfl) ?_
          refine y_aald hx hb hK.1 hW 45 (by omega) lay_45 rfl (by decide) j rfl (by omega) d_Draft_excess_61 ?_
          refine y_geti hx hb hA in_Output hown hK.1 hW (50 + j) (by omega) (lay_Output (n := j) (by omega)) rfl 8 (by decide) (hA _ k_fl_Draft_71) rfl d_Draft_excess_62 ?_
          rw [hco j (by omega)]
          refine y_ci (y_runS (As := [.int (J (eE (co j)))]) (rest := [.int (J (eE (-(1281 * b0) + sm cs ns - sm co j)))]) ⟨hx, hb, hml, hown, hts⟩ (c_Curve_negative l G (co j)) 1 k_co_Curve_negative k_ml_Draft_60 k_st_Curve_negative k_in_Curve rfl rfl (by decide +kernel) ⟨Nat.le_of_ble_eq_true rfl, Nat.le_of_ble_eq_true rfl⟩ (yPs0 (yK_bl G) (yK_mv G) hK) rfl hl.1 rfl (Nat.le_of_ble_eq_true rfl) d_Draft_excess_65 ⟨Nat.zero_le _, Nat.zero_le _⟩) hS hW (fun H locs hW hS => ?_)
          refine y_ci (y_runS (As := [.int (J (eE (-(1281 * b0) + sm cs ns - sm co j))), .int (J (eE (-(co j))))]) (rest := []) ⟨hx, hb, hml, hown, hts⟩ (c_Curve_sum l G (-(1281 * b0) + sm cs ns - sm co j) (-(co j))) 2 k_co_Curve_sum k_ml_Draft_68 k_st_Curve_sum k_in_Curve rfl rfl (by decide +kernel) ⟨Nat.le_of_ble_eq_true rfl, Nat.le_of_ble_eq_true rfl⟩ (yPs0 (yK_bl G) (yK_mv G) hK) rfl hl.1 rfl (Nat.le_of_ble_eq_true rfl) d_Draft_excess_68 ⟨Nat.zero_le _, Nat.zero_le _⟩) hS hW (fun H locs hW hS => ?_)
          refine lv_istore_n (lv' := [(2, .int (J (eE ((-(1281 * b0) + sm cs ns - sm co j) + (-(co j)))))), (3, .int (J (((j : Nat) : Int)))), (0, .ref (z + 43)), (1, .ref (z + 1))]) hx hb d_Draft_excess_71 rfl hl (by decide) rfl (fun ls hl => ?_)
          refine lv_iinc (k := 1) (v := J (((j + 1 : Nat) : Int))) (lv' := [(3, .int (J (((j + 1 : Nat) : Int)))), (2, .int (J (eE ((-(1281 * b0) + sm cs ns - sm co j) + (-(co j)))))), (0, .ref (z + 43)), (1, .ref (z + 1))]) hx hb d_Draft_excess_72 hl rfl (by rw [Int.natCast_add j 1]; exact J_add _ _) (by decide) rfl (fun ls hl => ?_)
          refine lv_goto (tgt := 47) hx hb d_Draft_excess_75 (by decide) ?_
          refine ih (j + 1) (by omega) ls H locs hW hS ?_
          have e : -(1281 * b0) + sm cs ns - sm co (j + 1) = -(1281 * b0) + sm cs ns - sm co j + -(co j) := by show _ - (sm co j + co j) = _; omega
          rw [e]
          exact hl
      exact loop47 no 0 (by omega) ls _ _ hW hS (by have e : -(1281 * b0) + sm cs ns - sm co 0 = -(1281 * b0) + sm cs ns := Int.sub_zero _; rw [e]; exact hl)
    | succ k ih =>
      intro j hjk ls H locs hW hS hl
      refine lv_iload_n hx hb d_Draft_excess_17 rfl (lv_at hl 0 rfl) ?_
      refine lv_aload_n hx hb d_Draft_excess_18 rfl (lv_at hl 2 rfl) ?_
      refine y_geti hx hb hA in_Draft hown hK.1 hW 43 (by omega) lay_43 rfl 2 (by decide) (hA _ k_fl_Draft_25) rfl d_Draft_excess_19 ?_
      rw [hs]
      refine y_icmp_ge (tgt := 45) hx hb d_Draft_excess_22 (by decide) ⟨by omega, by omega⟩ ⟨by omega, by omega⟩ (fun hc4 => absurd hc4 (by omega)) (fun hc4 => ?_)
      refine lv_iload_n hx hb d_Draft_excess_25 rfl (lv_at hl 1 rfl) ?_
      refine lv_aload_n hx hb d_Draft_excess_26 rfl (lv_at hl 2 rfl) ?_
      refine y_getr hx hb hA in_Draft hown hK.1 hW 43 (by omega) lay_43 rfl 0 (by decide) (hA _ k_fl_Draft_11) rfl d_Draft_excess_27 ?_
      refine lv_iload_n hx hb d_Draft_excess_30 rfl (lv_at hl 0 rfl) ?_
      refine y_aald hx hb hK.1 hW 44 (by omega) lay_44 rfl (by decide) j rfl (by omega) d_Draft_excess_31 ?_
      refine y_geti hx hb hA in_Spend hown hK.1 hW (46 + 2 * j) (by omega) (lay_Spend (n := j) (by omega)) rfl 9 (by decide) (hA _ k_fl_Draft_65) rfl d_Draft_excess_32 ?_
      rw [hcs j (by omega)]
      refine y_ci (y_runS (As := [.int (J (eE (-(1281 * b0) + sm cs j))), .int (J (eE (cs j)))]) (rest := []) ⟨hx, hb, hml, hown, hts⟩ (c_Curve_sum l G (-(1281 * b0) + sm cs j) (cs j)) 2 k_co_Curve_sum k_ml_Draft_68 k_st_Curve_sum k_in_Curve rfl rfl (by decide +kernel) ⟨Nat.le_of_ble_eq_true rfl, Nat.le_of_ble_eq_true rfl⟩ (yPs0 (yK_bl G) (yK_mv G) hK) rfl hl.1 rfl (Nat.le_of_ble_eq_true rfl) d_Draft_excess_35 ⟨Nat.zero_le _, Nat.zero_le _⟩) hS hW (fun H locs hW hS => ?_)
      refine lv_istore_n (lv' := [(2, .int (J (eE ((-(1281 * b0) + sm cs j) + (cs j))))), (3, .int (J (((j : Nat) : Int)))), (0, .ref (z + 43)), (1, .ref (z + 1))]) hx hb d_Draft_excess_38 rfl hl (by decide) rfl (fun ls hl => ?_)
      refine lv_iinc (k := 1) (v := J (((j + 1 : Nat) : Int))) (lv' := [(3, .int (J (((j + 1 : Nat) : Int)))), (2, .int (J (eE ((-(1281 * b0) + sm cs j) + (cs j))))), (0, .ref (z + 43)), (1, .ref (z + 1))]) hx hb d_Draft_excess_39 hl rfl (by rw [Int.natCast_add j 1]; exact J_add _ _) (by decide) rfl (fun ls hl => ?_)
      refine lv_goto (tgt := 17) hx hb d_Draft_excess_42 (by decide) ?_
      refine ih (j + 1) (by omega) ls H locs hW hS ?_
      have e : -(1281 * b0) + sm cs (j + 1) = -(1281 * b0) + sm cs j + cs j := (Int.add_assoc _ _ _).symm
      rw [e]
      exact hl
  exact loop17 ns 0 (by omega) ls _ _ hW hS (by have e : -(1281 * b0) + sm cs 0 = -(1281 * b0) := Int.add_zero _; rw [e]; exact hl)

set_option maxHeartbeats 4000000 in
set_option maxRecDepth 100000 in
theorem c_Draft_repeatsNullifier (l : Launch) (G : yG) (z : Nat) (σ : yM) (t : Nat) (ht : t < 2) (hn : ∀ j, j < 2 → jr (σ (46 + 2 * j) 8)) : Met l y_Draft_repeatsNullifier (Cond.code y_Draft_repeatsNullifier b_Draft_repeatsNullifier 3 (some .boolean) :: yT) ({ frames := 0, cells := 0, slots := 0, locals := 0 } : Room) (yP ycl G yLP 0 73 z σ (yK G) [.ref (z + 43), .int (J ((t : Int)))]) (yQi (if (∃ j, j < t ∧ σ (46 + 2 * j) 8 = σ (46 + 2 * t) 8) then 1 else 0)) 0 0 yN := by
  refine y_met (by decide +kernel) (Nat.le_of_ble_eq_true rfl) ?_
  intro p e s m below meth c ls hx hb hr hml hlocks hown hname hts hv hl
  have hA : ∀ w ∈ yT, w.before _ s = true := fun w h => hts w (List.mem_cons_of_mem _ h)
  have hl : lv_has ls 3 [(0, .ref (z + 43)), (1, .int (J ((t : Int))))] := hl
  obtain ⟨hW, hK⟩ := hv
  have hS : va_S yN s.heap s.heap [] := va_S.rf
  refine lv_iconst (v := J (0)) hx hb d_Draft_repeatsNullifier_0 rfl ?_
  refine lv_istore_n (lv' := [(2, .int (J (0))), (0, .ref (z + 43)), (1, .int (J ((t : Int))))]) hx hb d_Draft_repeatsNullifier_1 rfl hl (by decide) rfl (fun ls hl => ?_)
  have loop2 : ∀ (k j : Nat), j + k = t → (∀ i, i < j → σ (46 + 2 * i) 8 ≠ σ (46 + 2 * t) 8) → ∀ (ls : Array Slot), lv_has ls 3 [(2, .int (J (((j : Nat) : Int)))), (0, .ref (z + 43)), (1, .int (J ((t : Int))))] → W p l e ({ frames := 0, cells := 0, slots := 0, locals := 0 } : Room) s m ([.ref (z + 43), .int (J ((t : Int)))] : List Value).toArray below meth c s.heap [] 0 0 (MQ below (yQi (if (∃ j, j < t ∧ σ (46 + 2 * j) 8 = σ (46 + 2 * t) 8) then 1 else 0)) ([.ref (z + 43), .int (J ((t : Int)))] : List Value).toArray s 0 0 yN) (F0 m 2 ls []) := by
    intro k
    induction k with
    | zero =>
      intro j hjk hI ls hl
      have hjN : j = t := by omega
      subst hjN
      refine lv_iload_n hx hb d_Draft_repeatsNullifier_2 rfl (lv_at hl 0 rfl) ?_
      refine lv_iload_n hx hb d_Draft_repeatsNullifier_3 rfl (lv_at hl 2 rfl) ?_
      refine y_icmp_ge (tgt := 36) hx hb d_Draft_repeatsNullifier_4 (by decide) ⟨by omega, by omega⟩ ⟨by omega, by omega⟩ (fun hc1 => ?_) (fun hc1 => absurd hc1 (by omega))
      refine lv_iconst (v := J (0)) hx hb d_Draft_repeatsNullifier_36 rfl ?_
      exact y_retz hx hb hr hlocks hS (Or.inl rfl) (if_neg (fun ⟨i, h1, h2⟩ => hI i h1 h2)).symm d_Draft_repeatsNullifier_37
    | succ k ih =>
      intro j hjk hI ls hl
      have hnj := hn j (by omega)
      have hnt := hn t ht
      refine lv_iload_n hx hb d_Draft_repeatsNullifier_2 rfl (lv_at hl 0 rfl) ?_
      refine lv_iload_n hx hb d_Draft_repeatsNullifier_3 rfl (lv_at hl 2 rfl) ?_
      refine y_icmp_ge (tgt := 36) hx hb d_Draft_repeatsNullifier_4 (by decide) ⟨by omega, by omega⟩ ⟨by omega, by omega⟩ (fun hc2 => absurd hc2 (by omega)) (fun hc2 => ?_)
      refine lv_aload_n hx hb d_Draft_repeatsNullifier_7 rfl (lv_at hl 1 rfl) ?_
      refine y_getr hx hb hA in_Draft hown hK.1 hW 43 (by omega) lay_43 rfl 0 (by decide) (hA _ k_fl_Draft_11) rfl d_Draft_repeatsNullifier_8 ?_
      refine lv_iload_n hx hb d_Draft_repeatsNullifier_11 rfl (lv_at hl 0 rfl) ?_
      refine y_aald hx hb hK.1 hW 44 (by omega) lay_44 rfl (by decide) j rfl (by omega) d_Draft_repeatsNullifier_12 ?_
      refine y_geti hx hb hA in_Spend hown hK.1 hW (46 + 2 * j) (by omega) (lay_Spend (n := j) (by omega)) rfl 8 (by decide) (hA _ k_fl_Draft_72) rfl d_Draft_repeatsNullifier_13 ?_
      refine lv_aload_n hx hb d_Draft_repeatsNullifier_16 rfl (lv_at hl 1 rfl) ?_
      refine y_getr hx hb hA in_Draft hown hK.1 hW 43 (by omega) lay_43 rfl 0 (by decide) (hA _ k_fl_Draft_11) rfl d_Draft_repeatsNullifier_17 ?_
      refine lv_iload_n hx hb d_Draft_repeatsNullifier_20 rfl (lv_at hl 2 rfl) ?_
      refine y_aald hx hb hK.1 hW 44 (by omega) lay_44 rfl (by decide) t rfl (by omega) d_Draft_repeatsNullifier_21 ?_
      refine y_geti hx hb hA in_Spend hown hK.1 hW (46 + 2 * t) (by omega) (lay_Spend (n := t) (by omega)) rfl 8 (by decide) (hA _ k_fl_Draft_72) rfl d_Draft_repeatsNullifier_22 ?_
      refine y_icmp_ne (tgt := 30) hx hb d_Draft_repeatsNullifier_25 (by decide) hnj hnt (fun hne => ?_) (fun hne => ?_)
      · skip
        refine lv_iinc (k := 0) (v := J (((j + 1 : Nat) : Int))) (lv' := [(2, .int (J (((j + 1 : Nat) : Int)))), (0, .ref (z + 43)), (1, .int (J ((t : Int))))]) hx hb d_Draft_repeatsNullifier_30 hl rfl (by rw [Int.natCast_add j 1]; exact J_add _ _) (by decide) rfl (fun ls hl => ?_)
        refine lv_goto (tgt := 2) hx hb d_Draft_repeatsNullifier_33 (by decide) ?_
        refine ih (j + 1) (by omega) (fun i hi => ?_) ls hl
        by_cases e : i = j
        · subst e; exact hne
        · exact hI i (by omega)
      · skip
        refine lv_iconst (v := J (1)) hx hb d_Draft_repeatsNullifier_28 rfl ?_
        exact y_retz hx hb hr hlocks hS (Or.inr rfl) (if_pos ⟨j, by omega, hne⟩).symm d_Draft_repeatsNullifier_29
  exact loop2 t 0 (by omega) (fun i h => absurd h (Nat.not_lt_zero i)) ls hl
