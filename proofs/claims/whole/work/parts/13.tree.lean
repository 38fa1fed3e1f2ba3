theorem d_Tree_place_0 : decode b_Tree_place 0 = .ok (.bipush 32, 2) := by decide +kernel
theorem d_Tree_place_2 : decode b_Tree_place 2 = .ok (.bipush 32, 2) := by decide +kernel
theorem d_Tree_place_4 : decode b_Tree_place 4 = .ok (.iload_n 0, 1) := by decide +kernel
theorem d_Tree_place_5 : decode b_Tree_place 5 = .ok (.ishr, 1) := by decide +kernel
theorem d_Tree_place_6 : decode b_Tree_place 6 = .ok (.isub, 1) := by decide +kernel
theorem d_Tree_place_7 : decode b_Tree_place 7 = .ok (.iload_n 1, 1) := by decide +kernel
theorem d_Tree_place_8 : decode b_Tree_place 8 = .ok (.iadd, 1) := by decide +kernel
theorem d_Tree_place_9 : decode b_Tree_place 9 = .ok (.ireturn, 1) := by decide +kernel
theorem d_Tree_root_0 : decode b_Tree_root 0 = .ok (.aload_n 0, 1) := by decide +kernel
theorem d_Tree_root_1 : decode b_Tree_root 1 = .ok (.getfield 9, 3) := by decide +kernel
theorem d_Tree_root_4 : decode b_Tree_root 4 = .ok (.iconst 4, 1) := by decide +kernel
theorem d_Tree_root_5 : decode b_Tree_root 5 = .ok (.iconst 0, 1) := by decide +kernel
theorem d_Tree_root_6 : decode b_Tree_root 6 = .ok (.invokestatic 28, 3) := by decide +kernel
theorem d_Tree_root_9 : decode b_Tree_root 9 = .ok (.iaload, 1) := by decide +kernel
theorem d_Tree_root_10 : decode b_Tree_root 10 = .ok (.ireturn, 1) := by decide +kernel
theorem d_Tree_setLeaf_0 : decode b_Tree_setLeaf 0 = .ok (.aload_n 0, 1) := by decide +kernel
theorem d_Tree_setLeaf_1 : decode b_Tree_setLeaf 1 = .ok (.getfield 9, 3) := by decide +kernel
theorem d_Tree_setLeaf_4 : decode b_Tree_setLeaf 4 = .ok (.iload_n 1, 1) := by decide +kernel
theorem d_Tree_setLeaf_5 : decode b_Tree_setLeaf 5 = .ok (.iload_n 2, 1) := by decide +kernel
theorem d_Tree_setLeaf_6 : decode b_Tree_setLeaf 6 = .ok (.iastore, 1) := by decide +kernel
theorem d_Tree_setLeaf_7 : decode b_Tree_setLeaf 7 = .ok (.iconst 1, 1) := by decide +kernel
theorem d_Tree_setLeaf_8 : decode b_Tree_setLeaf 8 = .ok (.istore_n 3, 1) := by decide +kernel
theorem d_Tree_setLeaf_9 : decode b_Tree_setLeaf 9 = .ok (.iload_n 3, 1) := by decide +kernel
theorem d_Tree_setLeaf_10 : decode b_Tree_setLeaf 10 = .ok (.iconst 4, 1) := by decide +kernel
theorem d_Tree_setLeaf_11 : decode b_Tree_setLeaf 11 = .ok (.if_icmp .gt 73, 3) := by decide +kernel
theorem d_Tree_setLeaf_14 : decode b_Tree_setLeaf 14 = .ok (.iload_n 1, 1) := by decide +kernel
theorem d_Tree_setLeaf_15 : decode b_Tree_setLeaf 15 = .ok (.iload_n 3, 1) := by decide +kernel
theorem d_Tree_setLeaf_16 : decode b_Tree_setLeaf 16 = .ok (.ishr, 1) := by decide +kernel
theorem d_Tree_setLeaf_17 : decode b_Tree_setLeaf 17 = .ok (.istore 4, 2) := by decide +kernel
theorem d_Tree_setLeaf_19 : decode b_Tree_setLeaf 19 = .ok (.aload_n 0, 1) := by decide +kernel
theorem d_Tree_setLeaf_20 : decode b_Tree_setLeaf 20 = .ok (.getfield 9, 3) := by decide +kernel
theorem d_Tree_setLeaf_23 : decode b_Tree_setLeaf 23 = .ok (.iload_n 3, 1) := by decide +kernel
theorem d_Tree_setLeaf_24 : decode b_Tree_setLeaf 24 = .ok (.iconst 1, 1) := by decide +kernel
theorem d_Tree_setLeaf_25 : decode b_Tree_setLeaf 25 = .ok (.isub, 1) := by decide +kernel
theorem d_Tree_setLeaf_26 : decode b_Tree_setLeaf 26 = .ok (.iconst 2, 1) := by decide +kernel
theorem d_Tree_setLeaf_27 : decode b_Tree_setLeaf 27 = .ok (.iload 4, 2) := by decide +kernel
theorem d_Tree_setLeaf_29 : decode b_Tree_setLeaf 29 = .ok (.imul, 1) := by decide +kernel
theorem d_Tree_setLeaf_30 : decode b_Tree_setLeaf 30 = .ok (.invokestatic 28, 3) := by decide +kernel
theorem d_Tree_setLeaf_33 : decode b_Tree_setLeaf 33 = .ok (.iaload, 1) := by decide +kernel
theorem d_Tree_setLeaf_34 : decode b_Tree_setLeaf 34 = .ok (.istore 5, 2) := by decide +kernel
theorem d_Tree_setLeaf_36 : decode b_Tree_setLeaf 36 = .ok (.aload_n 0, 1) := by decide +kernel
theorem d_Tree_setLeaf_37 : decode b_Tree_setLeaf 37 = .ok (.getfield 9, 3) := by decide +kernel
theorem d_Tree_setLeaf_40 : decode b_Tree_setLeaf 40 = .ok (.iload_n 3, 1) := by decide +kernel
theorem d_Tree_setLeaf_41 : decode b_Tree_setLeaf 41 = .ok (.iconst 1, 1) := by decide +kernel
theorem d_Tree_setLeaf_42 : decode b_Tree_setLeaf 42 = .ok (.isub, 1) := by decide +kernel
theorem d_Tree_setLeaf_43 : decode b_Tree_setLeaf 43 = .ok (.iconst 2, 1) := by decide +kernel
theorem d_Tree_setLeaf_44 : decode b_Tree_setLeaf 44 = .ok (.iload 4, 2) := by decide +kernel
theorem d_Tree_setLeaf_46 : decode b_Tree_setLeaf 46 = .ok (.imul, 1) := by decide +kernel
theorem d_Tree_setLeaf_47 : decode b_Tree_setLeaf 47 = .ok (.iconst 1, 1) := by decide +kernel
theorem d_Tree_setLeaf_48 : decode b_Tree_setLeaf 48 = .ok (.iadd, 1) := by decide +kernel
theorem d_Tree_setLeaf_49 : decode b_Tree_setLeaf 49 = .ok (.invokestatic 28, 3) := by decide +kernel
theorem d_Tree_setLeaf_52 : decode b_Tree_setLeaf 52 = .ok (.iaload, 1) := by decide +kernel
theorem d_Tree_setLeaf_53 : decode b_Tree_setLeaf 53 = .ok (.istore 6, 2) := by decide +kernel
theorem d_Tree_setLeaf_55 : decode b_Tree_setLeaf 55 = .ok (.aload_n 0, 1) := by decide +kernel
theorem d_Tree_setLeaf_56 : decode b_Tree_setLeaf 56 = .ok (.getfield 9, 3) := by decide +kernel
theorem d_Tree_setLeaf_59 : decode b_Tree_setLeaf 59 = .ok (.iload_n 3, 1) := by decide +kernel
theorem d_Tree_setLeaf_60 : decode b_Tree_setLeaf 60 = .ok (.iload 4, 2) := by decide +kernel
theorem d_Tree_setLeaf_62 : decode b_Tree_setLeaf 62 = .ok (.invokestatic 28, 3) := by decide +kernel
theorem d_Tree_setLeaf_65 : decode b_Tree_setLeaf 65 = .ok (.aload_n 0, 1) := by decide +kernel
theorem d_Tree_setLeaf_66 : decode b_Tree_setLeaf 66 = .ok (.getfield 24, 3) := by decide +kernel
theorem d_Tree_setLeaf_69 : decode b_Tree_setLeaf 69 = .ok (.iload 5, 2) := by decide +kernel
theorem d_Tree_setLeaf_71 : decode b_Tree_setLeaf 71 = .ok (.iload 6, 2) := by decide +kernel
theorem d_Tree_setLeaf_73 : decode b_Tree_setLeaf 73 = .ok (.iload_n 3, 1) := by decide +kernel
theorem d_Tree_setLeaf_74 : decode b_Tree_setLeaf 74 = .ok (.invokevirtual 32, 3) := by decide +kernel
theorem d_Tree_setLeaf_77 : decode b_Tree_setLeaf 77 = .ok (.iastore, 1) := by decide +kernel
theorem d_Tree_setLeaf_78 : decode b_Tree_setLeaf 78 = .ok (.iinc 3 1, 3) := by decide +kernel
theorem d_Tree_setLeaf_81 : decode b_Tree_setLeaf 81 = .ok (.goto (-72), 3) := by decide +kernel
theorem d_Tree_setLeaf_84 : decode b_Tree_setLeaf 84 = .ok (.return_, 1) := by decide +kernel
theorem d_Tree_copyPath_0 : decode b_Tree_copyPath 0 = .ok (.iconst 0, 1) := by decide +kernel
theorem d_Tree_copyPath_1 : decode b_Tree_copyPath 1 = .ok (.istore_n 3, 1) := by decide +kernel
theorem d_Tree_copyPath_2 : decode b_Tree_copyPath 2 = .ok (.iload_n 3, 1) := by decide +kernel
theorem d_Tree_copyPath_3 : decode b_Tree_copyPath 3 = .ok (.iconst 4, 1) := by decide +kernel
theorem d_Tree_copyPath_4 : decode b_Tree_copyPath 4 = .ok (.if_icmp .ge 26, 3) := by decide +kernel
theorem d_Tree_copyPath_7 : decode b_Tree_copyPath 7 = .ok (.aload_n 2, 1) := by decide +kernel
theorem d_Tree_copyPath_8 : decode b_Tree_copyPath 8 = .ok (.iload_n 3, 1) := by decide +kernel
theorem d_Tree_copyPath_9 : decode b_Tree_copyPath 9 = .ok (.aload_n 0, 1) := by decide +kernel
theorem d_Tree_copyPath_10 : decode b_Tree_copyPath 10 = .ok (.getfield 9, 3) := by decide +kernel
theorem d_Tree_copyPath_13 : decode b_Tree_copyPath 13 = .ok (.iload_n 3, 1) := by decide +kernel
theorem d_Tree_copyPath_14 : decode b_Tree_copyPath 14 = .ok (.iload_n 1, 1) := by decide +kernel
theorem d_Tree_copyPath_15 : decode b_Tree_copyPath 15 = .ok (.iload_n 3, 1) := by decide +kernel
theorem d_Tree_copyPath_16 : decode b_Tree_copyPath 16 = .ok (.ishr, 1) := by decide +kernel
theorem d_Tree_copyPath_17 : decode b_Tree_copyPath 17 = .ok (.iconst 1, 1) := by decide +kernel
theorem d_Tree_copyPath_18 : decode b_Tree_copyPath 18 = .ok (.ixor, 1) := by decide +kernel
theorem d_Tree_copyPath_19 : decode b_Tree_copyPath 19 = .ok (.invokestatic 28, 3) := by decide +kernel
theorem d_Tree_copyPath_22 : decode b_Tree_copyPath 22 = .ok (.iaload, 1) := by decide +kernel
theorem d_Tree_copyPath_23 : decode b_Tree_copyPath 23 = .ok (.iastore, 1) := by decide +kernel
theorem d_Tree_copyPath_24 : decode b_Tree_copyPath 24 = .ok (.iinc 3 1, 3) := by decide +kernel
theorem d_Tree_copyPath_27 : decode b_Tree_copyPath 27 = .ok (.goto (-25), 3) := by decide +kernel
theorem d_Tree_copyPath_30 : decode b_Tree_copyPath 30 = .ok (.return_, 1) := by decide +kernel
theorem d_Tree_append_0 : decode b_Tree_append 0 = .ok (.aload_n 0, 1) := by decide +kernel
theorem d_Tree_append_1 : decode b_Tree_append 1 = .ok (.getfield 15, 3) := by decide +kernel
theorem d_Tree_append_4 : decode b_Tree_append 4 = .ok (.aload_n 0, 1) := by decide +kernel
theorem d_Tree_append_5 : decode b_Tree_append 5 = .ok (.getfield 38, 3) := by decide +kernel
theorem d_Tree_append_8 : decode b_Tree_append 8 = .ok (.aload_n 1, 1) := by decide +kernel
theorem d_Tree_append_9 : decode b_Tree_append 9 = .ok (.getfield 42, 3) := by decide +kernel
theorem d_Tree_append_12 : decode b_Tree_append 12 = .ok (.iastore, 1) := by decide +kernel
theorem d_Tree_append_13 : decode b_Tree_append 13 = .ok (.aload_n 0, 1) := by decide +kernel
theorem d_Tree_append_14 : decode b_Tree_append 14 = .ok (.getfield 18, 3) := by decide +kernel
theorem d_Tree_append_17 : decode b_Tree_append 17 = .ok (.aload_n 0, 1) := by decide +kernel
theorem d_Tree_append_18 : decode b_Tree_append 18 = .ok (.getfield 38, 3) := by decide +kernel
theorem d_Tree_append_21 : decode b_Tree_append 21 = .ok (.aload_n 1, 1) := by decide +kernel
theorem d_Tree_append_22 : decode b_Tree_append 22 = .ok (.getfield 47, 3) := by decide +kernel
theorem d_Tree_append_25 : decode b_Tree_append 25 = .ok (.iastore, 1) := by decide +kernel
theorem d_Tree_append_26 : decode b_Tree_append 26 = .ok (.aload_n 0, 1) := by decide +kernel
theorem d_Tree_append_27 : decode b_Tree_append 27 = .ok (.getfield 21, 3) := by decide +kernel
theorem d_Tree_append_30 : decode b_Tree_append 30 = .ok (.aload_n 0, 1) := by decide +kernel
theorem d_Tree_append_31 : decode b_Tree_append 31 = .ok (.getfield 38, 3) := by decide +kernel
theorem d_Tree_append_34 : decode b_Tree_append 34 = .ok (.aload_n 1, 1) := by decide +kernel
theorem d_Tree_append_35 : decode b_Tree_append 35 = .ok (.getfield 50, 3) := by decide +kernel
theorem d_Tree_append_38 : decode b_Tree_append 38 = .ok (.iastore, 1) := by decide +kernel
theorem d_Tree_append_39 : decode b_Tree_append 39 = .ok (.aload_n 0, 1) := by decide +kernel
theorem d_Tree_append_40 : decode b_Tree_append 40 = .ok (.aload_n 0, 1) := by decide +kernel
theorem d_Tree_append_41 : decode b_Tree_append 41 = .ok (.getfield 38, 3) := by decide +kernel
theorem d_Tree_append_44 : decode b_Tree_append 44 = .ok (.aload_n 1, 1) := by decide +kernel
theorem d_Tree_append_45 : decode b_Tree_append 45 = .ok (.getfield 53, 3) := by decide +kernel
theorem d_Tree_append_48 : decode b_Tree_append 48 = .ok (.invokevirtual 56, 3) := by decide +kernel
theorem d_Tree_append_51 : decode b_Tree_append 51 = .ok (.aload_n 0, 1) := by decide +kernel
theorem d_Tree_append_52 : decode b_Tree_append 52 = .ok (.dup, 1) := by decide +kernel
theorem d_Tree_append_53 : decode b_Tree_append 53 = .ok (.getfield 38, 3) := by decide +kernel
theorem d_Tree_append_56 : decode b_Tree_append 56 = .ok (.iconst 1, 1) := by decide +kernel
theorem d_Tree_append_57 : decode b_Tree_append 57 = .ok (.iadd, 1) := by decide +kernel
theorem d_Tree_append_58 : decode b_Tree_append 58 = .ok (.putfield 38, 3) := by decide +kernel
theorem d_Tree_append_61 : decode b_Tree_append 61 = .ok (.return_, 1) := by decide +kernel
theorem d_Tree_removeLatest_0 : decode b_Tree_removeLatest 0 = .ok (.aload_n 0, 1) := by decide +kernel
theorem d_Tree_removeLatest_1 : decode b_Tree_removeLatest 1 = .ok (.dup, 1) := by decide +kernel
theorem d_Tree_removeLatest_2 : decode b_Tree_removeLatest 2 = .ok (.getfield 38, 3) := by decide +kernel
theorem d_Tree_removeLatest_5 : decode b_Tree_removeLatest 5 = .ok (.iconst 1, 1) := by decide +kernel
theorem d_Tree_removeLatest_6 : decode b_Tree_removeLatest 6 = .ok (.isub, 1) := by decide +kernel
theorem d_Tree_removeLatest_7 : decode b_Tree_removeLatest 7 = .ok (.putfield 38, 3) := by decide +kernel
theorem d_Tree_removeLatest_10 : decode b_Tree_removeLatest 10 = .ok (.aload_n 0, 1) := by decide +kernel
theorem d_Tree_removeLatest_11 : decode b_Tree_removeLatest 11 = .ok (.aload_n 0, 1) := by decide +kernel
theorem d_Tree_removeLatest_12 : decode b_Tree_removeLatest 12 = .ok (.getfield 38, 3) := by decide +kernel
theorem d_Tree_removeLatest_15 : decode b_Tree_removeLatest 15 = .ok (.iconst 0, 1) := by decide +kernel
theorem d_Tree_removeLatest_16 : decode b_Tree_removeLatest 16 = .ok (.invokevirtual 56, 3) := by decide +kernel
theorem d_Tree_removeLatest_19 : decode b_Tree_removeLatest 19 = .ok (.return_, 1) := by decide +kernel

set_option maxHeartbeats 4000000 in
set_option maxRecDepth 100000 in
theorem c_Tree_place (l : Launch) (G : yG) (L : Nat) (hL : L ≤ 4) (a k : Int) (ha : a = (L : Int)) : Met l y_Tree_place (Cond.code y_Tree_place b_Tree_place 2 (some .int) :: yT) ({ frames := 0, cells := 0, slots := 0, locals := 0 } : Room) (yP0 (yK G) [.int (J (a)), .int (J (k))]) (yQi (32 - 32 / 2 ^ L + k)) 0 0 yN := by
  refine y_met (by decide +kernel) (Nat.le_of_ble_eq_true rfl) ?_
  intro p e s m below meth c ls hx hb hr hml hlocks hown hname hts hv hl
  have hA : ∀ w ∈ yT, w.before _ s = true := fun w h => hts w (List.mem_cons_of_mem _ h)
  have hl : lv_has ls 2 [(0, .int (J (a))), (1, .int (J (k)))] := hl
  have hK : yK G s := hv
  have hS : va_S yN s.heap s.heap [] := va_S.rf
  refine lv_bipush (v := J (32)) hx hb d_Tree_place_0 (by decide) ?_
  refine lv_bipush (v := J (32)) hx hb d_Tree_place_2 (by decide) ?_
  refine lv_iload_n hx hb d_Tree_place_4 rfl (lv_at hl 0 rfl) ?_
  refine y_ishr hx hb d_Tree_place_5 L ha (by omega) (by omega) (by omega) ?_
  refine y_isub hx hb d_Tree_place_6 ?_
  refine lv_iload_n hx hb d_Tree_place_7 rfl (lv_at hl 1 rfl) ?_
  refine y_iadd hx hb d_Tree_place_8 ?_
  exact y_reti hx hb hr hlocks hS rfl d_Tree_place_9

set_option maxHeartbeats 4000000 in
set_option maxRecDepth 100000 in
theorem c_Tree_root (l : Launch) (G : yG) (z : Nat) (σ : yM) : Met l y_Tree_root (Cond.code y_Tree_root b_Tree_root 1 (some .int) :: yT) ({ frames := 1, cells := 0, slots := 0, locals := 21 } : Room) (yP ycl G yLP 12 5 z σ (yK G) [.ref (z + 12)]) (yQi (σ 13 30)) 0 0 yN := by
  refine y_met (by decide +kernel) (Nat.le_of_ble_eq_true rfl) ?_
  intro p e s m below meth c ls hx hb hr hml hlocks hown hname hts hv hl
  have hA : ∀ w ∈ yT, w.before _ s = true := fun w h => hts w (List.mem_cons_of_mem _ h)
  have hl : lv_has ls 1 [(0, .ref (z + 12))] := hl
  obtain ⟨hW, hK⟩ := hv
  have hS : va_S yN s.heap s.heap [] := va_S.rf
  refine lv_aload_n hx hb d_Tree_root_0 rfl (lv_at hl 0 rfl) ?_
  refine y_getr hx hb hA in_Tree hown hK.1 hW 12 (by omega) lay_12 rfl 1 (by decide) (hA _ k_fl_Tree_9) rfl d_Tree_root_1 ?_
  refine lv_iconst (v := J (4)) hx hb d_Tree_root_4 rfl ?_
  refine lv_iconst (v := J (0)) hx hb d_Tree_root_5 rfl ?_
  refine y_ci (y_runS (As := [.int (J (4)), .int (J (0))]) (rest := [.ref (z + 13)]) ⟨hx, hb, hml, hown, hts⟩ (c_Tree_place l G 4 (by omega) (4) (0) rfl) 2 k_co_Tree_place k_ml_Tree_28 k_st_Tree_place k_in_Tree rfl rfl (by decide +kernel) ⟨Nat.le_of_ble_eq_true rfl, Nat.le_of_ble_eq_true rfl⟩ (yPs0 (yK_bl G) (yK_mv G) hK) rfl hl.1 rfl (Nat.le_of_ble_eq_true rfl) d_Tree_root_6 ⟨Nat.zero_le _, Nat.zero_le _⟩) hS hW (fun H locs hW hS => ?_)
  refine y_iald hx hb hK.1 hW 13 (by omega) lay_13 rfl (by decide) 30 (by decide) (by decide) d_Tree_root_9 ?_
  exact y_reti hx hb hr hlocks hS rfl d_Tree_root_10

set_option maxHeartbeats 4000000 in
set_option maxRecDepth 100000 in
theorem c_Tree_setLeaf (l : Launch) (G : yG) (z : Nat) (σ : yM) (hBs : yBs σ) (lf : Nat → Int) (hT : yTr σ lf) (hlf : ∀ i, 0 ≤ lf i ∧ lf i < 10009) (i : Nat) (hi : i < 16) (c0 : Int) (hc0 : 0 ≤ c0 ∧ c0 < 10009) : Met l y_Tree_setLeaf (Cond.code y_Tree_setLeaf b_Tree_setLeaf 7 (Option.none : Option Jvm.ClassFile.FieldType) :: yT) ({ frames := 4, cells := 0, slots := 0, locals := 102 } : Room) (yP ycl G yLP 0 73 z σ (yK G) [.ref (z + 12), .int (J ((i : Int))), .int (J (c0))]) (yQh ycl G yLP 0 73 z (fun τ => (∀ d, d ≠ 13 → τ d = σ d) ∧ yTr τ (lfu lf i c0))) 0 0 (yA z 0 73) := by
  refine y_met (by decide +kernel) (Nat.le_of_ble_eq_true rfl) ?_
  intro p e s m below meth c ls hx hb hr hml hlocks hown hname hts hv hl
  have hA : ∀ w ∈ yT, w.before _ s = true := fun w h => hts w (List.mem_cons_of_mem _ h)
  have hl : lv_has ls 7 [(0, .ref (z + 12)), (1, .int (J ((i : Int)))), (2, .int (J (c0)))] := hl
  obtain ⟨hW, hK⟩ := hv
  have hS : va_S (yA z 0 73) s.heap s.heap [] := va_S.rf
  have hAr : ∀ d, 0 ≤ d ∧ d < 0 + 73 → yA z 0 73 (z + d) := yA_all
  refine lv_aload_n hx hb d_Tree_setLeaf_0 rfl (lv_at hl 0 rfl) ?_
  refine y_getr hx hb hA in_Tree hown hK.1 hW 12 (by omega) lay_12 rfl 1 (by decide) (hA _ k_fl_Tree_9) rfl d_Tree_setLeaf_1 ?_
  refine lv_iload_n hx hb d_Tree_setLeaf_4 rfl (lv_at hl 1 rfl) ?_
  refine lv_iload_n hx hb d_Tree_setLeaf_5 rfl (lv_at hl 2 rfl) ?_
  refine y_iast hx hb hK.1 hW 13 (by omega) lay_13 rfl (by decide) hS hAr i rfl (by omega) d_Tree_setLeaf_6 (fun H locs hW hS => ?_)
  refine lv_iconst (v := J (1)) hx hb d_Tree_setLeaf_7 rfl ?_
  refine lv_istore_n (lv' := [(3, .int (J (1))), (0, .ref (z + 12)), (1, .int (J ((i : Int)))), (2, .int (J (c0)))]) hx hb d_Tree_setLeaf_8 rfl hl (by decide) rfl (fun ls hl => ?_)
  have loop : ∀ (k M : Nat), M + k = 4 → ∀ (ls : Array Slot) (τ : yM) (H : Heap) (locs : List Loc), (∀ d, d ≠ 13 → τ d = σ d) → trI τ lf (lfu lf i c0) (M + 1) → yW ycl G yLP 0 73 z τ H → va_S (yA z 0 73) s.heap H locs → lv_has ls 7 [(3, .int (J (((M + 1 : Nat) : Int)))), (0, .ref (z + 12)), (1, .int (J ((i : Int)))), (2, .int (J (c0)))] → W p l e ({ frames := 4, cells := 0, slots := 0, locals := 102 } : Room) s m ([.ref (z + 12), .int (J ((i : Int))), .int (J (c0))] : List Value).toArray below meth c H locs 0 0 (MQ below (yQh ycl G yLP 0 73 z (fun τ => (∀ d, d ≠ 13 → τ d = σ d) ∧ yTr τ (lfu lf i c0))) ([.ref (z + 12), .int (J ((i : Int))), .int (J (c0))] : List Value).toArray s 0 0 (yA z 0 73)) (F0 m 9 ls []) := by
    intro k
    induction k with
    | zero =>
      intro M hMk ls τ H locs ho hI hW hS hl
      have hM4 : M = 4 := by omega
      subst hM4
      refine lv_iload_n hx hb d_Tree_setLeaf_9 rfl (lv_at hl 0 rfl) ?_
      refine lv_iconst (v := J (4)) hx hb d_Tree_setLeaf_10 rfl ?_
      refine y_icmp_gt (tgt := 84) hx hb d_Tree_setLeaf_11 (by decide) ⟨by omega, by omega⟩ ⟨by omega, by omega⟩ (fun hc1 => ?_) (fun hc1 => absurd hc1 (by omega))
      exact y_reth hx hb hr hlocks hS hW ⟨ho, trI_5 hI⟩ d_Tree_setLeaf_84
    | succ k ih =>
      intro M hMk ls τ H locs ho hI hW hS hl
      have hBt : yBs τ := yBs_to hBs (ho 3 (by decide)) (ho 5 (by decide)) (ho 7 (by decide)) (ho 9 (by decide)) (ho 11 (by decide))
      have hq := q_lt (L := M + 1) (by omega) hi
      have hq2 := q_dn (L := M) (by omega) hq
      have hdiv : (i : Int) / 2 ^ (M + 1) = ((i / 2 ^ (M + 1) : Nat) : Int) := by rw [Int.natCast_ediv, Int.natCast_pow]; rfl
      refine lv_iload_n hx hb d_Tree_setLeaf_9 rfl (lv_at hl 0 rfl) ?_
      refine lv_iconst (v := J (4)) hx hb d_Tree_setLeaf_10 rfl ?_
      refine y_icmp_gt (tgt := 84) hx hb d_Tree_setLeaf_11 (by decide) ⟨by omega, by omega⟩ ⟨by omega, by omega⟩ (fun hc2 => absurd hc2 (by omega)) (fun hc2 => ?_)
      refine lv_iload_n hx hb d_Tree_setLeaf_14 rfl (lv_at hl 2 rfl) ?_
      refine lv_iload_n hx hb d_Tree_setLeaf_15 rfl (lv_at hl 0 rfl) ?_
      refine y_ishr hx hb d_Tree_setLeaf_16 (M + 1) rfl (by omega) (by omega) (by omega) ?_
      rw [hdiv]
      obtain ⟨q, e_q⟩ : ∃ q : Nat, q = i / 2 ^ (M + 1) := ⟨_, rfl⟩
      rw [← e_q]
      rw [← e_q] at hq hq2
      refine lv_istore (lv' := [(4, .int (J ((q : Int)))), (3, .int (J (((M + 1 : Nat) : Int)))), (0, .ref (z + 12)), (1, .int (J ((i : Int)))), (2, .int (J (c0)))]) hx hb d_Tree_setLeaf_17 hl (by decide) rfl (fun ls hl => ?_)
      refine lv_aload_n hx hb d_Tree_setLeaf_19 rfl (lv_at hl 2 rfl) ?_
      refine y_getr hx hb hA in_Tree hown hK.1 hW 12 (by omega) lay_12 rfl 1 (by decide) (hA _ k_fl_Tree_9) rfl d_Tree_setLeaf_20 ?_
      refine lv_iload_n hx hb d_Tree_setLeaf_23 rfl (lv_at hl 1 rfl) ?_
      refine lv_iconst (v := J (1)) hx hb d_Tree_setLeaf_24 rfl ?_
      refine y_isub hx hb d_Tree_setLeaf_25 ?_
      refine lv_iconst (v := J (2)) hx hb d_Tree_setLeaf_26 rfl ?_
      refine lv_iload hx hb d_Tree_setLeaf_27 (lv_at hl 0 rfl) ?_
      refine y_imul hx hb d_Tree_setLeaf_29 ?_
      refine y_ci (y_runS (As := [.int (J (((M + 1 : Nat) : Int) - 1)), .int (J (2 * (q : Int)))]) (rest := [.ref (z + 13)]) ⟨hx, hb, hml, hown, hts⟩ (c_Tree_place l G M (by omega) (((M + 1 : Nat) : Int) - 1) (2 * (q : Int)) (by omega)) 2 k_co_Tree_place k_ml_Tree_28 k_st_Tree_place k_in_Tree rfl rfl (by decide +kernel) ⟨Nat.le_of_ble_eq_true rfl, Nat.le_of_ble_eq_true rfl⟩ (yPs0 (yK_bl G) (yK_mv G) hK) rfl hl.1 rfl (Nat.le_of_ble_eq_true rfl) d_Tree_setLeaf_30 ⟨Nat.zero_le _, Nat.zero_le _⟩) hS hW (fun H locs hW hS => ?_)
      refine y_iald hx hb hK.1 hW 13 (by omega) lay_13 rfl (by decide) (tpl M (2 * q)) (by rw [tpl_int (by omega)]; omega) (tpl_lt (by omega) (by omega)) d_Tree_setLeaf_33 ?_
      have e_l : τ 13 (tpl M (2 * q)) = nd (lfu lf i c0) M (2 * q) := by rw [hI M (2 * q) (by omega) (by omega), if_pos (by omega)]
      have r_l := nd_rng (lfu_rng hlf hc0 (i := i)) M (2 * q)
      rw [e_l]
      refine lv_istore (lv' := [(5, .int (J (nd (lfu lf i c0) M (2 * q)))), (4, .int (J ((q : Int)))), (3, .int (J (((M + 1 : Nat) : Int)))), (0, .ref (z + 12)), (1, .int (J ((i : Int)))), (2, .int (J (c0)))]) hx hb d_Tree_setLeaf_34 hl (by decide) rfl (fun ls hl => ?_)
      refine lv_aload_n hx hb d_Tree_setLeaf_36 rfl (lv_at hl 3 rfl) ?_
      refine y_getr hx hb hA in_Tree hown hK.1 hW 12 (by omega) lay_12 rfl 1 (by decide) (hA _ k_fl_Tree_9) rfl d_Tree_setLeaf_37 ?_
      refine lv_iload_n hx hb d_Tree_setLeaf_40 rfl (lv_at hl 2 rfl) ?_
      refine lv_iconst (v := J (1)) hx hb d_Tree_setLeaf_41 rfl ?_
      refine y_isub hx hb d_Tree_setLeaf_42 ?_
      refine lv_iconst (v := J (2)) hx hb d_Tree_setLeaf_43 rfl ?_
      refine lv_iload hx hb d_Tree_setLeaf_44 (lv_at hl 1 rfl) ?_
      refine y_imul hx hb d_Tree_setLeaf_46 ?_
      refine lv_iconst (v := J (1)) hx hb d_Tree_setLeaf_47 rfl ?_
      refine y_iadd hx hb d_Tree_setLeaf_48 ?_
      refine y_ci (y_runS (As := [.int (J (((M + 1 : Nat) : Int) - 1)), .int (J ((2 * (q : Int)) + 1))]) (rest := [.ref (z + 13)]) ⟨hx, hb, hml, hown, hts⟩ (c_Tree_place l G M (by omega) (((M + 1 : Nat) : Int) - 1) ((2 * (q : Int)) + 1) (by omega)) 2 k_co_Tree_place k_ml_Tree_28 k_st_Tree_place k_in_Tree rfl rfl (by decide +kernel) ⟨Nat.le_of_ble_eq_true rfl, Nat.le_of_ble_eq_true rfl⟩ (yPs0 (yK_bl G) (yK_mv G) hK) rfl hl.1 rfl (Nat.le_of_ble_eq_true rfl) d_Tree_setLeaf_49 ⟨Nat.zero_le _, Nat.zero_le _⟩) hS hW (fun H locs hW hS => ?_)
      refine y_iald hx hb hK.1 hW 13 (by omega) lay_13 rfl (by decide) (tpl M (2 * q + 1)) (by rw [tpl_int (by omega)]; omega) (tpl_lt (by omega) (by omega)) d_Tree_setLeaf_52 ?_
      have e_r : τ 13 (tpl M (2 * q + 1)) = nd (lfu lf i c0) M (2 * q + 1) := by rw [hI M (2 * q + 1) (by omega) (by omega), if_pos (by omega)]
      have r_r := nd_rng (lfu_rng hlf hc0 (i := i)) M (2 * q + 1)
      rw [e_r]
      refine lv_istore (lv' := [(6, .int (J (nd (lfu lf i c0) M (2 * q + 1)))), (5, .int (J (nd (lfu lf i c0) M (2 * q)))), (4, .int (J ((q : Int)))), (3, .int (J (((M + 1 : Nat) : Int)))), (0, .ref (z + 12)), (1, .int (J ((i : Int)))), (2, .int (J (c0)))]) hx hb d_Tree_setLeaf_53 hl (by decide) rfl (fun ls hl => ?_)
      refine lv_aload_n hx hb d_Tree_setLeaf_55 rfl (lv_at hl 4 rfl) ?_
      refine y_getr hx hb hA in_Tree hown hK.1 hW 12 (by omega) lay_12 rfl 1 (by decide) (hA _ k_fl_Tree_9) rfl d_Tree_setLeaf_56 ?_
      refine lv_iload_n hx hb d_Tree_setLeaf_59 rfl (lv_at hl 3 rfl) ?_
      refine lv_iload hx hb d_Tree_setLeaf_60 (lv_at hl 2 rfl) ?_
      refine y_ci (y_runS (As := [.int (J (((M + 1 : Nat) : Int))), .int (J ((q : Int)))]) (rest := [.ref (z + 13)]) ⟨hx, hb, hml, hown, hts⟩ (c_Tree_place l G (M + 1) (by omega) (((M + 1 : Nat) : Int)) ((q : Int)) rfl) 2 k_co_Tree_place k_ml_Tree_28 k_st_Tree_place k_in_Tree rfl rfl (by decide +kernel) ⟨Nat.le_of_ble_eq_true rfl, Nat.le_of_ble_eq_true rfl⟩ (yPs0 (yK_bl G) (yK_mv G) hK) rfl hl.1 rfl (Nat.le_of_ble_eq_true rfl) d_Tree_setLeaf_62 ⟨Nat.zero_le _, Nat.zero_le _⟩) hS hW (fun H locs hW hS => ?_)
      refine lv_aload_n hx hb d_Tree_setLeaf_65 rfl (lv_at hl 4 rfl) ?_
      refine y_getr hx hb hA in_Tree hown hK.1 hW 12 (by omega) lay_12 rfl 0 (by decide) (hA _ k_fl_Tree_24) rfl d_Tree_setLeaf_66 ?_
      refine lv_iload hx hb d_Tree_setLeaf_69 (lv_at hl 1 rfl) ?_
      refine lv_iload hx hb d_Tree_setLeaf_71 (lv_at hl 0 rfl) ?_
      refine lv_iload_n hx hb d_Tree_setLeaf_73 rfl (lv_at hl 3 rfl) ?_
      refine y_ci (y_runV (As := [.int (J (nd (lfu lf i c0) M (2 * q))), .int (J (nd (lfu lf i c0) M (2 * q + 1))), .int (J (((M + 1 : Nat) : Int)))]) (rest := [.int (J (32 - 32 / 2 ^ (M + 1) + (q : Int))), .ref (z + 13)]) ⟨hx, hb, hml, hown, hts⟩ (c_Bases_hash l G z τ hBt (nd (lfu lf i c0) M (2 * q)) (nd (lfu lf i c0) M (2 * q + 1)) (((M + 1 : Nat) : Int)) ⟨by omega, by omega⟩ ⟨by omega, by omega⟩ ⟨by omega, by omega⟩) 3 k_co_Bases_hash k_ml_Tree_32 k_im_Bases_hash k_se_Bases_hash k_in_Bases rfl rfl (by decide +kernel) ⟨Nat.le_of_ble_eq_true rfl, Nat.le_of_ble_eq_true rfl⟩ (yPv (yK_bl G) (yK_mv G) hK hK.1 hW (by omega) lay_1 rfl (by omega) (by omega)) rfl hl.1 rfl (Nat.le_of_ble_eq_true rfl) d_Tree_setLeaf_74 ⟨Nat.zero_le _, Nat.zero_le _⟩) hS hW (fun H locs hW hS => ?_)
      refine y_iast hx hb hK.1 hW 13 (by omega) lay_13 rfl (by decide) hS hAr (tpl (M + 1) q) (by rw [tpl_int (by omega)]) (tpl_lt (by omega) (by omega)) d_Tree_setLeaf_77 (fun H locs hW hS => ?_)
      refine lv_iinc (k := 3) (v := J (((M + 1 + 1 : Nat) : Int))) (lv' := [(3, .int (J (((M + 1 + 1 : Nat) : Int)))), (6, .int (J (nd (lfu lf i c0) M (2 * q + 1)))), (5, .int (J (nd (lfu lf i c0) M (2 * q)))), (4, .int (J ((q : Int)))), (0, .ref (z + 12)), (1, .int (J ((i : Int)))), (2, .int (J (c0)))]) hx hb d_Tree_setLeaf_78 hl rfl (by rw [Int.natCast_add (M + 1) 1]; exact J_add _ _) (by decide) rfl (fun ls hl => ?_)
      refine lv_goto (tgt := 9) hx hb d_Tree_setLeaf_81 (by decide) ?_
      subst e_q
      refine ih (M + 1) (by omega) ls _ H locs ?_ (tr_step hI (by omega) hi rfl) hW hS ?_
      · exact fun d hd => (y2_ne hd).trans (ho d hd)
      · exact lv_sub hl [0, 4, 5, 6] rfl
  refine loop 4 0 rfl ls _ H locs (fun d hd => y2_ne hd) ?_ hW hS hl
  have h0 := tr_step (c := c0) (trI_0 (lf' := lfu lf i c0) hT) (by omega) hi (v := c0) (M := 0) (by show c0 = lfu lf i c0 (i / 2 ^ 0); simp [lfu])
  have e0 : tpl 0 (i / 2 ^ 0) = i := by simp [tpl]
  rw [e0] at h0
  exact h0
